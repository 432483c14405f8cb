theorem cLow_ok (a : Int32) {n : Nat} (h0 : 0 < n) (hn : n < 2 ^ 31) : ∃ j, j < n ∧ cLow a (nI n) = nI j := low_ok a h0 hn
/-- a cell of the script, or of the row behind it -/
def gPs (b L : Nat) (xs : Nat → Int32) (H0 : Heap) (x : Int32) : Array Value → State → Prop := va_Pc [.ref b, .int x] (fun U => U.heap = H0 ∧ va_X b L xs U H0)
theorem gPs_blind {b L : Nat} {xs : Nat → Int32} {H0 : Heap} {x : Int32} : FrameBlind (gPs b L xs H0 x) := fun a U g mk q => ⟨q.1, q.2.1, va_X.moved (u := U) (U := U.calling g mk a) (Vm.Alike.refl U.vm) q.2.2⟩
theorem g_preCell {s : State} {H : Heap} {b L : Nat} {xs : Nat → Int32} {x : Int32} (hX : va_X b L xs s H) : PreS s H (gPs b L xs H x) [.ref b, .int x] := ⟨gPs_blind, fun _ hU hW => ⟨rfl, hU, va_X.moved hW.alike hX⟩⟩
set_option maxHeartbeats 4000000 in
set_option maxRecDepth 100000 in
theorem c_L_cell (l : Launch) (b L : Nat) (xs : Nat → Int32) (H0 : Heap) (k : Nat) (hk : k < 1000) (hL : L ≤ 260) (hbl : b < H0.size) : Met l yL_cell wsL_cell { frames := 0, cells := 0, slots := 0, locals := 0 } (gPs b L xs H0 (nI k)) (QcRead (cCell L xs k)) 0 0 (fun _ => False) := by
  refine Met.ofW (cc := cL_cell) (maxL := 2) (ret := (some .int)) (by decide) rfl ?_
  intro p_ e_ s m args below meth c s₁ B hml hv
  obtain ⟨rfl, rfl, hX⟩ := hv
  have hx := B.exec
  have hb := B.bytes
  have hr := B.returns
  have hlocks := B.notSynchronized
  have hS : va_S (fun _ => False) s.heap s.heap [] := va_S.rf
  have hl := lv_entry ([.ref b, .int (nI k)]) (n := 2) (Nat.le_of_ble_eq_true rfl)
  rw [lg_entry_eq]
  generalize (lg_sl ([.ref b, .int (nI k)]) ++ List.replicate (2 - (lg_sl ([.ref b, .int (nI k)])).length) Slot.unset).toArray = ls at hl ⊢
  have hl : lv_has ls 2 [(0, .ref b), (1, .int (nI k))] := hl
  refine lv_iload_n hx hb dL_cell_0 rfl (lv_at hl 1 rfl) ?_
  refine lv_aload_n hx hb dL_cell_1 rfl (lv_at hl 0 rfl) ?_
  refine va_slen hx hb hX hbl id hS dL_cell_2 ?_
  refine lv_icmp_ge (tgt := 12) hx hb dL_cell_3 (by decide) (fun c_1 => ?_) (fun c_1 => ?_)
  · have hge : L ≤ k := (nI_leI (a := L) (b := k) (by omega) (by omega)).mp c_1
    refine lv_sipush (v := nI 7919) hx hb dL_cell_12 (by decide +kernel) ?_
    refine lv_iload_n hx hb dL_cell_15 rfl (lv_at hl 1 rfl) ?_
    refine lv_iconst (v := nI 3) hx hb dL_cell_16 (by decide +kernel) ?_
    refine lv_iadd hx hb dL_cell_17 ?_
    refine lv_imul hx hb dL_cell_18 ?_
    refine lv_iload_n hx hb dL_cell_19 rfl (lv_at hl 1 rfl) ?_
    refine lv_bipush (v := nI 11) hx hb dL_cell_20 (by decide +kernel) ?_
    refine lv_iadd hx hb dL_cell_22 ?_
    refine lv_imul hx hb dL_cell_23 ?_
    have hq : nI 7919 * (nI k + nI 3) * (nI k + nI 11) = cCell L xs k := (if_neg (by omega)).symm
    exact W.iret (v := nI 7919 * (nI k + nI 3) * (nI k + nI 11)) hx hb hr (fun t ht _ => g_ret hq ht) g_no dL_cell_24
  · have hlt : k < L := by
      have h9 := mt (nI_leI (a := L) (b := k) (by omega) (by omega)).mpr c_1
      omega
    refine lv_aload_n hx hb dL_cell_6 rfl (lv_at hl 0 rfl) ?_
    refine lv_iload_n hx hb dL_cell_7 rfl (lv_at hl 1 rfl) ?_
    refine va_sld hx hb hX hbl id hS (vp_in_nI hlt (by omega)) dL_cell_8 ?_
    refine lv_goto (tgt := 24) hx hb dL_cell_9 (by decide) ?_
    have hq : xs (nI k).toNatClampNeg = cCell L xs k := by
      rw [nI_clamp (by omega)]
      exact (if_pos hlt).symm
    exact W.iret (v := xs (nI k).toNatClampNeg) hx hb hr (fun t ht _ => g_ret hq ht) g_no dL_cell_24
/-- what stands still in the law's frame -/
def lwF (p : Program) (l : Launch) (s : State) (m : MethodId) (meth : Method) (c : Code) (b L : Nat) (xs : Nat → Int32) (G : gG) : Prop :=
  (p.tables.exec = Jvm.exec ∧ c.code = code ∧ meth.sig.returnType = ret ∧ c.maxLocals = 15 ∧ s.vm.findClass RL = some m.cls ∧ (∀ w ∈ wsL_law, w.before #[Value.ref b] s = true) ∧ va_X b L xs s s.heap ∧ b < s.heap.size ∧ meth.locks = false) ∧ l.stackTraces = false ∧ gK G s ∧ gX G s s.heap ∧ gB G = s.heap.size ∧ L ≤ 260
def lwZ (s : State) (zc : Nat → Nat) : Prop := gDis zc 50 ∧ ∀ k, k < 50 → s.heap.size ≤ zc k
def lwH (G : gG) (s : State) (zc : Nat → Nat) (q : gRF) (H : Heap) (locs : List Loc) : Prop := va_P G.1 vwCl (wRF G zc q.1 q.2) H ∧ va_S (fun q => s.heap.size ≤ q) s.heap H locs
theorem law_Xat {G : gG} {s : State} {H : Heap} {locs : List Loc} (hX : gX G s s.heap) (hB : gB G = s.heap.size) (hS : va_S (fun q => s.heap.size ≤ q) s.heap H locs) : gX G s H := hX.kept (fun q h1 h2 => hS.2.1 q h1 (by
  show ¬ s.heap.size ≤ q
  rw [← hB]
  exact h2))
section S99
variable {p_ : Program} {e_ : Env} {l : Launch} {s : State} {m : MethodId} {below : List Frame} {meth : Method} {c : Code} {b L : Nat} {xs : Nat → Int32} {G : gG} {zc : Nat → Nat} {q q2 : gRF} {H : Heap} {locs : List Loc} {cells slots pc : Nat} {ls : Array Slot} {rest : List Value} {Q : State → Prop}
theorem law_S0 (F : lwF p_ l s m meth c b L xs G) : CallFix p_ m c code 15 s #[Value.ref b] wsL_law RL := ⟨F.1.1, F.1.2.1, F.1.2.2.2.1, F.1.2.2.2.2.1, F.1.2.2.2.2.2.1⟩
/-- a reader of the class that may throw, where it doesn't -/
theorem law_q (F : lwF p_ l s m meth c b L xs G) (hH : lwH G s zc q H locs) {y : MethodName} {bytes : ByteArray} {maxL idx n fr lo mc : Nat} {ty : FieldType} {ws : List Cond} {As : List Value} {E : Int32} (hM : gMq l y ws fr lo mc G H (.ref (zc 0) :: As) E) (cw : CallW room_1 s #[Value.ref b] RL RX6 idx y bytes maxL (some ty) ws { frames := fr, cells := mc, slots := 6 * mc, locals := lo } mc (6 * mc) n) (hn : As.length = n) (hls : ls.size = 15) (hdg : decode code pc = .ok (.invokevirtual idx, 3)) (hrm : (rest.map fun v => v.category).sum ≤ 8) (hcl : cells + mc ≤ 600130 ∧ slots + 6 * mc ≤ 7301080)
    (kk : W p_ l e_ room_1 s m #[Value.ref b] below meth c H locs cells slots Q (F0 m (pc + 3) ls (.int E :: rest))) : W p_ l e_ room_1 s m #[Value.ref b] below meth c H locs cells slots Q (F0 m pc ls (As.reverse ++ .ref (zc 0) :: rest)) :=
  g_callQ (va_runV (C := RX6) (law_S0 F) hM cw (g_preXV F.2.2.1 (law_Xat F.2.2.2.1 F.2.2.2.2.1 hH.2) hH.1 (q0 := 0) (ci := 6) (q := (RX6, TX6, 7)) rfl rfl) rfl hn hls rfl (lv_room hrm) hdg hcl) kk
/-- a reader of the class -/
theorem law_r (F : lwF p_ l s m meth c b L xs G) (hH : lwH G s zc q H locs) {y : MethodName} {bytes : ByteArray} {maxL idx n fr lo : Nat} {ty : FieldType} {ws : List Cond} {As : List Value} {E : Int32} (hM : gMr l y ws fr lo G H (.ref (zc 0) :: As) E) (cw : CallW room_1 s #[Value.ref b] RL RX6 idx y bytes maxL (some ty) ws { frames := fr, cells := 0, slots := 0, locals := lo } 0 0 n) (hn : As.length = n) (hls : ls.size = 15) (hdg : decode code pc = .ok (.invokevirtual idx, 3)) (hrm : (rest.map fun v => v.category).sum ≤ 8) (hcl : cells + 0 ≤ 600130 ∧ slots + 0 ≤ 7301080)
    (kk : W p_ l e_ room_1 s m #[Value.ref b] below meth c H locs cells slots Q (F0 m (pc + 3) ls (.int E :: rest))) : W p_ l e_ room_1 s m #[Value.ref b] below meth c H locs cells slots Q (F0 m pc ls (As.reverse ++ .ref (zc 0) :: rest)) :=
  g_callR (va_runV (C := RX6) (law_S0 F) hM cw (g_preV F.2.2.1 hH.1 (q0 := 0) (ci := 6) (q := (RX6, TX6, 7)) rfl rfl) rfl hn hls rfl (lv_room hrm) hdg hcl) kk
/-- a helper of the law that reads the object -/
theorem law_qs (F : lwF p_ l s m meth c b L xs G) (hH : lwH G s zc q H locs) {y : MethodName} {bytes : ByteArray} {maxL idx n fr lo mc : Nat} {ty : FieldType} {ws : List Cond} {As : List Value} {E : Int32} (hM : gMq l y ws fr lo mc G H As E) (cw : CallB room_1 s #[Value.ref b] RL idx y bytes maxL (some ty) ws { frames := fr, cells := mc, slots := 6 * mc, locals := lo } mc (6 * mc) n ∧ (Cond.static y).before #[Value.ref b] s = true) (hn : As.length = n) (hls : ls.size = 15) (hdg : decode code pc = .ok (.invokestatic idx, 3)) (hrm : (rest.map fun v => v.category).sum ≤ 8) (hcl : cells + mc ≤ 600130 ∧ slots + 6 * mc ≤ 7301080)
    (kk : W p_ l e_ room_1 s m #[Value.ref b] below meth c H locs cells slots Q (F0 m (pc + 3) ls (.int E :: rest))) : W p_ l e_ room_1 s m #[Value.ref b] below meth c H locs cells slots Q (F0 m pc ls (As.reverse ++ rest)) :=
  g_callQ (va_runS (law_S0 F) hM cw (g_preXS F.2.2.1 (law_Xat F.2.2.2.1 F.2.2.2.2.1 hH.2)) rfl hn hls rfl (lv_room hrm) hdg hcl) kk
/-- a helper of the law that looks at no object -/
theorem law_rs (F : lwF p_ l s m meth c b L xs G) {y : MethodName} {bytes : ByteArray} {maxL idx n fr lo : Nat} {ty : FieldType} {ws : List Cond} {As : List Value} {E : Int32} (hM : gMr l y ws fr lo G H As E) (cw : CallB room_1 s #[Value.ref b] RL idx y bytes maxL (some ty) ws { frames := fr, cells := 0, slots := 0, locals := lo } 0 0 n ∧ (Cond.static y).before #[Value.ref b] s = true) (hn : As.length = n) (hls : ls.size = 15) (hdg : decode code pc = .ok (.invokestatic idx, 3)) (hrm : (rest.map fun v => v.category).sum ≤ 8) (hcl : cells + 0 ≤ 600130 ∧ slots + 0 ≤ 7301080)
    (kk : W p_ l e_ room_1 s m #[Value.ref b] below meth c H locs cells slots Q (F0 m (pc + 3) ls (.int E :: rest))) : W p_ l e_ room_1 s m #[Value.ref b] below meth c H locs cells slots Q (F0 m pc ls (As.reverse ++ rest)) :=
  g_callR (va_runS (law_S0 F) hM cw (g_preS F.2.2.1) rfl hn hls rfl (lv_room hrm) hdg hcl) kk
theorem law_cell (F : lwF p_ l s m meth c b L xs G) (hH : lwH G s zc q H locs) {x : Int32} {k : Nat} (hx : x = nI k) (hk : k < 1000) (hls : ls.size = 15) (hdg : decode code pc = .ok (.invokestatic 72, 3)) (hrm : (rest.map fun v => v.category).sum ≤ 8) (hcl : cells + 0 ≤ 600130 ∧ slots + 0 ≤ 7301080)
    (kk : W p_ l e_ room_1 s m #[Value.ref b] below meth c H locs cells slots Q (F0 m (pc + 3) ls (.int (cCell L xs k) :: rest))) : W p_ l e_ room_1 s m #[Value.ref b] below meth c H locs cells slots Q (F0 m pc ls (.int x :: .ref b :: rest)) := by
  subst hx
  obtain ⟨⟨hx, hb, hret, hml, hown, hts, hX, hbl, hlocks⟩, hfl, hK, hXX, hB, hL⟩ := id F
  have e9 : H[b]? = s.heap[b]? := hH.2.2.1 b hbl (Nat.not_le.mpr hbl)
  have hX9 : va_X b L xs s H := hX.kept e9
  have hbl9 : b < H.size := Nat.lt_of_lt_of_le hbl hH.2.1
  exact g_callR (va_runS (As := [.ref b, .int (nI k)]) (law_S0 F) (c_L_cell l b L xs H k hk hL hbl9) (va_cwS 2 hts gL_law_L_cell rfl rfl rfl (by decide +kernel) ⟨Nat.le_of_ble_eq_true rfl, Nat.le_of_ble_eq_true rfl⟩) (g_preCell hX9) rfl rfl hls rfl (lv_room hrm) hdg hcl) kk
/-- a call that writes, where it doesn't throw -/
theorem law_w (F : lwF p_ l s m meth c b L xs G) (Z : lwZ s zc) (hH : lwH G s zc q H locs) {y : MethodName} {bytes : ByteArray} {maxL idx n fr lo mc : Nat} {ty : FieldType} {ws : List Cond} {As : List Value} {E : Int32} {nr : Nat → Nat → Int32} {nf : Nat → Int32} (hM : gMqw l y ws fr lo mc G H (.ref (zc 0) :: As) E (wRF G zc nr nf) (gF zc 50)) (hq : q2 = (nr, nf)) (cw : CallW room_1 s #[Value.ref b] RL RX6 idx y bytes maxL (some ty) ws { frames := fr, cells := mc, slots := 6 * mc, locals := lo } mc (6 * mc) n) (hn : As.length = n) (hls : ls.size = 15) (hdg : decode code pc = .ok (.invokevirtual idx, 3)) (hrm : (rest.map fun v => v.category).sum ≤ 8) (hcl : cells + mc ≤ 600130 ∧ slots + 6 * mc ≤ 7301080)
    (kk : ∀ (H1 : Heap) (locs1 : List Loc), lwH G s zc q2 H1 locs1 → W p_ l e_ room_1 s m #[Value.ref b] below meth c H1 locs1 (cells + mc) (slots + 6 * mc) Q (F0 m (pc + 3) ls (.int E :: rest))) : W p_ l e_ room_1 s m #[Value.ref b] below meth c H locs cells slots Q (F0 m pc ls (As.reverse ++ .ref (zc 0) :: rest)) := by
  have hin : ∀ q, gF zc 50 q → s.heap.size ≤ q := fun q hq => by
    obtain ⟨k, hk, e⟩ := hq
    rw [e]; exact Z.2 k hk
  refine va_calli (va_runV (C := RX6) (law_S0 F) hM cw (g_preXV F.2.2.1 (law_Xat F.2.2.2.1 F.2.2.2.2.1 hH.2) hH.1 (q0 := 0) (ci := 6) (q := (RX6, TX6, 7)) rfl rfl) rfl hn hls rfl (lv_room hrm) hdg hcl) hH.2 (fun q _ h => hin q h) (fun q h => hin q h) (fun r _ t H1 locs1 ht _ hw hBt _ hk1 hS1 => ?_)
  have hw : r = E := hw
  subst hw
  subst hq
  exact kk H1 locs1 ⟨by rw [← ht]; exact hBt, hS1⟩
end S99
