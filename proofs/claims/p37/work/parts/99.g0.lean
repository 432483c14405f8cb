theorem va_all {A : Nat → Prop} {ws : va_W} {z : Nat → Nat} {N : Nat} (h : ws.map Prod.fst = (List.range N).map z) (hD : va_D A ws) : ∀ k, k < N → A (z k) := by
  intro k hk
  have h1 : (ws.map Prod.fst)[k]? = some (z k) := by rw [h, List.getElem?_map, List.getElem?_range hk]; rfl
  rw [List.getElem?_map] at h1
  cases hq : ws[k]? with
  | none => rw [hq] at h1; cases h1
  | some q =>
    rw [hq] at h1
    have h2 : q.1 = z k := Option.some.inj h1
    rw [← h2]
    exact hD.2 k q hq
theorem law_zz {s : State} {G : gG} {zc : Nat → Nat} {r : Nat → Nat → Int32} {f : Nat → Int32} (hD : va_D (fun q => s.heap.size ≤ q) (wRF G zc r f)) : lwZ s zc := ⟨gDis_of (N := 50) rfl hD, va_all (N := 50) rfl hD⟩
section SLOOP
variable {p_ : Program} {e_ : Env} {l : Launch} {s : State} {m : MethodId} {below : List Frame} {meth : Method} {c : Code} {b L : Nat} {xs : Nat → Int32} {G : gG} {zc : Nat → Nat} {Q : State → Prop}
set_option maxHeartbeats 4000000 in
theorem law_loop (F : lwF p_ l s m meth c b L xs G) (Z : lwZ s zc) (hQ : Q = lw_Z below #[Value.ref b] s) : ∀ (r i : Nat), i ≤ 60 → 60 ≤ i + r → ∀ (q p : gRF) (n d k t v : Nat) (H : Heap) (locs : List Loc) (ls : Array Slot), sY q p n d k t v → n ≤ i → d ≤ 24 → t ≤ 8 * i → lwH G s zc q H locs → lv_has ls 15 [(4, .int (nI i)), (3, .int (nI d)), (2, .int (nI n)), (1, .ref (zc 0)), (0, .ref b)] → W p_ l e_ room_1 s m #[Value.ref b] below meth c H locs (50 + 10 * i) (2213 + 60 * i) Q (F0 m 15 ls []) := by
  intro r
  induction r with
  | zero =>
    intro i hi hr q p n d k t v H locs ls h9 hn hd ht hH hl
    obtain ⟨⟨hx, hb, hret, hml, hown, hts, hX, hbl, hlocks⟩, hfl, hK, hXX, hB, hL⟩ := id F
    refine lv_iload hx hb dL_law_15 (lv_at hl 0 rfl) ?_
    refine lv_bipush (v := nI 60) hx hb dL_law_17 (by decide +kernel) ?_
    refine lv_icmp_ge (tgt := 725) hx hb dL_law_19 (by decide) (fun c_1 => ?_) (fun c_1 => ?_)
    · exact law_end F Z h9 hH ⟨by omega, by omega⟩ hQ (lv_sub hl [1, 2, 3, 4] rfl)
    · exact absurd ((nI_leI (a := 60) (b := i) (by decide) (by omega)).mpr (by omega)) c_1
  | succ r ih =>
    intro i hi hr q p n d k t v H locs ls h9 hn hd ht hH hl
    obtain ⟨⟨hx, hb, hret, hml, hown, hts, hX, hbl, hlocks⟩, hfl, hK, hXX, hB, hL⟩ := id F
    refine lv_iload hx hb dL_law_15 (lv_at hl 0 rfl) ?_
    refine lv_bipush (v := nI 60) hx hb dL_law_17 (by decide +kernel) ?_
    refine lv_icmp_ge (tgt := 725) hx hb dL_law_19 (by decide) (fun c_1 => ?_) (fun c_1 => ?_)
    · exact law_end F Z h9 hH ⟨by omega, by omega⟩ hQ (lv_sub hl [1, 2, 3, 4] rfl)
    · have hlt : i < 60 := by
        have h7 := mt (nI_leI (a := 60) (b := i) (by decide) (by omega)).mpr c_1
        omega
      exact law_pre F Z h9 hH hlt hn hd ht (CS := 50 + 10 * (i + 1)) (SS := 2213 + 60 * (i + 1)) ⟨by omega, by omega, by omega, by omega⟩ hl (fun g cc hg hcc q p n d k t v H locs ls h9 hn hd ht hH hl => law_tail F Z h9 hH hlt hg hcc ⟨by omega, by omega⟩ hl (fun ls hl => ih (i + 1) (by omega) (by omega) q p n d k t v H locs ls h9 hn hd ht hH hl))
end SLOOP
set_option maxHeartbeats 4000000 in
set_option maxRecDepth 100000 in
theorem whole_start {p : Program} {e : Env} {s : State} {m : MethodId} {below : List Frame} {meth : Method} {c : Code} (l : Launch) (hflags : l.flags = flags0) {b L : Nat} {xs : Nat → Int32} (hL : L ≤ 260) (C0 : lw_At p s m meth c b L xs) : W p l e room_1 s m #[Value.ref b] below meth c s.heap [] 0 0 (lw_Z below #[Value.ref b] s) (entryFrame m ([Value.ref b] : List Value).toArray 15) := by
  obtain ⟨hx, hb, hr, hml, hown, hts0, hX, hbl, hlocks, hgv⟩ := id C0
  have hts : ∀ w ∈ wsL_law, w.before #[Value.ref b] s = true := fun w hw => hts0 w (wsL_law_in w hw)
  obtain ⟨G, hB, hK⟩ := law_K hts0 s.heap.size
  have hXX := law_X hts0 hgv hB
  have F : lwF p l s m meth c b L xs G := ⟨⟨hx, hb, hr, hml, hown, hts, hX, hbl, hlocks⟩, law_fl hflags, hK, hXX, hB, hL⟩
  have S0 := law_S0 F
  have hA : ∀ q : Nat, s.heap.size ≤ q → (fun q : Nat => s.heap.size ≤ q) q := fun _ h => h
  have hS : va_S (fun q : Nat => s.heap.size ≤ q) s.heap s.heap [] := va_S.rf
  have hP : va_P G.1 vwCl [] s.heap := fun k q h => by simp at h
  have hD : va_D (fun q : Nat => s.heap.size ≤ q) [] := ⟨fun i j p q h => by simp at h, fun k q h => by simp at h⟩
  have hl := lv_entry ([.ref b]) (n := 15) (Nat.le_of_ble_eq_true rfl)
  rw [lg_entry_eq]
  generalize (lg_sl ([.ref b]) ++ List.replicate (15 - (lg_sl ([.ref b])).length) Slot.unset).toArray = ls at hl ⊢
  have hl : lv_has ls 15 [(0, .ref b)] := hl
  refine va_new (ci := 6) (fs := [.null, .null, .null, .null, .null, .int 0, .int 0]) (C := RX6) (T := TX6) (N := 7) hx hb hts inlX6 tyX6 tyX6_ok hown (hts0 (.classLink RL 9 RX6) (by decide +kernel)) (hts0 (.instantiable RX6 7) (by decide +kernel)) (hts0 (.initialized RX6) (by decide +kernel)) hK.1 hP hD hS hA rfl (fun j hj => by rcases (show j = 0 ∨ j = 1 ∨ j = 2 ∨ j = 3 ∨ j = 4 ∨ j = 5 ∨ j = 6 by omega) with rfl | rfl | rfl | rfl | rfl | rfl | rfl <;> rfl) (Nat.le_of_ble_eq_true rfl) (Nat.le_of_ble_eq_true rfl) dL_law_0 (fun hc H hP hD hS => ?_)
  refine W.widen (k := 1) (n := 7) (Nat.le_of_ble_eq_true rfl) (Nat.le_of_ble_eq_true rfl) ?_
  refine lv_dup hx hb dL_law_3 rfl ?_
  refine g_calln (w := []) (va_runI (As := []) (rest := [.ref hc]) S0 (c_X6_init l G _ hc (hP.sub [0] rfl)) (cwI 0 hts gL_law_X6_init rfl rfl rfl (hts0 (.initialized RX6) (by decide +kernel)) (hts0 (.methodLink RL 71 yX6_init) (by decide +kernel)) (hts0 (.instanceMethod yX6_init) (by decide +kernel)) rfl (by decide +kernel) ⟨Nat.le_of_ble_eq_true rfl, Nat.le_of_ble_eq_true rfl⟩) (g_preS hK) rfl rfl hl.1 rfl (lv_room (Nat.le_of_ble_eq_true rfl)) dL_law_4 ⟨Nat.le_of_ble_eq_true rfl, Nat.le_of_ble_eq_true rfl⟩) hP hD hS hA (fun uc H locs hP hD hS => ?_)
  obtain ⟨zc, hzc⟩ : ∃ zc : Nat → Nat, zc = (fun k => if k = 0 then hc else uc k) := ⟨_, rfl⟩
  have hz0 : zc 0 = hc := by rw [hzc]; rfl
  have hP : va_P G.1 vwCl (wRF G zc cR0 cF0) H := by rw [hzc]; exact hP
  have hD : va_D (fun q : Nat => s.heap.size ≤ q) (wRF G zc cR0 cF0) := by rw [hzc]; exact hD
  refine W.widen (k := 50 + 10 * 0) (n := 2213 + 60 * 0) (Nat.le_of_ble_eq_true rfl) (Nat.le_of_ble_eq_true rfl) ?_
  refine lv_astore_n (lv' := [(1, .ref hc), (0, .ref b)]) hx hb dL_law_7 rfl hl (by decide) rfl (fun ls hl => ?_)
  refine lv_iconst (v := nI 0) hx hb dL_law_8 (by decide +kernel) ?_
  refine lv_istore_n (lv' := [(2, .int (nI 0)), (1, .ref hc), (0, .ref b)]) hx hb dL_law_9 rfl hl (by decide) rfl (fun ls hl => ?_)
  refine lv_iconst (v := nI 0) hx hb dL_law_10 (by decide +kernel) ?_
  refine lv_istore_n (lv' := [(3, .int (nI 0)), (2, .int (nI 0)), (1, .ref hc), (0, .ref b)]) hx hb dL_law_11 rfl hl (by decide) rfl (fun ls hl => ?_)
  refine lv_iconst (v := nI 0) hx hb dL_law_12 (by decide +kernel) ?_
  refine lv_istore (lv' := [(4, .int (nI 0)), (3, .int (nI 0)), (2, .int (nI 0)), (1, .ref hc), (0, .ref b)]) hx hb dL_law_13 hl (by decide) rfl (fun ls hl => ?_)
  rw [← hz0] at hl
  exact law_loop F (law_zz hD) rfl 60 0 (by omega) (by omega) (cR0, cF0) (mR0, mF0) 0 0 0 0 1 H locs ls y_start (Nat.le_refl _) (Nat.zero_le _) (Nat.le_refl _) ⟨hP, hS⟩ hl
