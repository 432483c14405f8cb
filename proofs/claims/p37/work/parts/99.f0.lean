theorem g_arrI {s : State} {args : Array Value} (h : (Cond.arrayClass .int).before args s = true) : ∃ c : ClassId, ArrOfT s c .int ∧ va_RA s c .int := by
  obtain ⟨c, k, comp, h1, h2, h3⟩ := Cond.arrayClass_spec h
  exact ⟨c, fun n z => ⟨fun k h => (by cases h), k, h2, comp, h3⟩, h1⟩
theorem law_K {s : State} {args : Array Value} (hts : ∀ w ∈ lw_tbl, w.before args s = true) (B : Nat) : ∃ G : gG, gB G = B ∧ gK G s := by
  obtain ⟨c0, i0, k0⟩ := u_known (C := RX0) (T := TX0) (N := 7) (n := 7) hts inX0 (hts (.instantiable RX0 7) (by decide +kernel))
  obtain ⟨c1, i1, k1⟩ := u_known (C := RX1) (T := TX1) (N := 4) (n := 4) hts inX1 (hts (.instantiable RX1 4) (by decide +kernel))
  obtain ⟨c2, i2, k2⟩ := u_known (C := RX2) (T := TX2) (N := 7) (n := 7) hts inX2 (hts (.instantiable RX2 7) (by decide +kernel))
  obtain ⟨c3, i3, k3⟩ := u_known (C := RX3) (T := TX3) (N := 2) (n := 2) hts inX3 (hts (.instantiable RX3 2) (by decide +kernel))
  obtain ⟨c4, i4, k4⟩ := u_known (C := RX4) (T := TX4) (N := 6) (n := 6) hts inX4 (hts (.instantiable RX4 6) (by decide +kernel))
  obtain ⟨c5, i5, k5⟩ := u_known (C := RX5) (T := TX5) (N := 1) (n := 1) hts inX5 (hts (.instantiable RX5 1) (by decide +kernel))
  obtain ⟨c6, i6, k6⟩ := u_known (C := RX6) (T := TX6) (N := 7) (n := 7) hts inX6 (hts (.instantiable RX6 7) (by decide +kernel))
  obtain ⟨cI, aI⟩ := g_arrI (hts (.arrayClass .int) (by decide +kernel))
  obtain ⟨dC, dI, hKc⟩ : ∃ (dC : Nat → ClassId) (dI : Nat → Nat → Nat), ∀ (k : Nat) (q : vw_C), vwCl[k]? = some q → u_Kn s q.1 q.2.1 q.2.2 (dC k) (dI k) := by
    refine ⟨fun k => match k with | 0 => c0 | 1 => c1 | 2 => c2 | 3 => c3 | 4 => c4 | 5 => c5 | _ => c6, fun k => match k with | 0 => i0 | 1 => i1 | 2 => i2 | 3 => i3 | 4 => i4 | 5 => i5 | _ => i6, ?_⟩
    intro k q hq
    match k, hq with
    | 0, hq => cases hq; exact k0
    | 1, hq => cases hq; exact k1
    | 2, hq => cases hq; exact k2
    | 3, hq => cases hq; exact k3
    | 4, hq => cases hq; exact k4
    | 5, hq => cases hq; exact k5
    | 6, hq => cases hq; exact k6
    | k + 7, hq => exact absurd (List.getElem?_eq_some_iff.mp hq).1 (by show ¬ k + 7 < 7; omega)
  refine ⟨((dC, dI), (cI, (cI, (cI, B)))), rfl, ⟨hKc, ?_⟩, va_Nw.of rfl (hts (.methodLinkNest RX1 37 yX6_withBit "Rotaforge") (by decide +kernel)), va_Nw.of rfl (hts (.methodLinkNest RX3 30 yX6_hasBit "Rotaforge") (by decide +kernel)), va_Nw.of rfl (hts (.methodLinkNest RX3 39 yX6_withBit "Rotaforge") (by decide +kernel))⟩
  intro k q hq
  match k, hq with
  | 0, hq => cases hq; exact aI
  | k + 1, hq => exact absurd (List.getElem?_eq_some_iff.mp hq).1 (by show ¬ k + 1 < 1; omega)
theorem law_str1 : ∀ q ∈ gStr, Cond.stringRef RX6 q.1 q.2 ∈ lw_tbl := by decide +kernel
theorem law_str2 : ∀ q ∈ gStr, Cond.exactly (.string RX6 q.1) "java/lang/String" ∈ flatC (Jvm.Cond.and given_1 narrow_1) := by decide +kernel
theorem law_cst : ∀ q ∈ gExs, Cond.castable q q ∈ lw_tbl := by decide +kernel
theorem law_dcl : ∀ q ∈ gDc, Cond.declares (Bundle.initS q) ∈ lw_tbl := by decide +kernel
theorem law_dclT : ∀ q ∈ gDc, (Cond.declares (Bundle.initS q)).onTables = true := fun _ _ => rfl
theorem law_X {s : State} {args : Array Value} (hts : ∀ w ∈ lw_tbl, w.before args s = true) (hgv : (Jvm.Cond.and given_1 narrow_1).before args s = true) {G : gG} (hB : gB G = s.heap.size) : gX G s s.heap := by
  have hs := flat_of_before _ hgv
  have hA : ∀ a : Nat, a < s.heap.size → ¬ (fun q => gB G ≤ q) a := fun a ha h => by
    have h1 : gB G ≤ a := h
    omega
  refine ⟨⟨vx_Zqof (hts (.laysStatic Bundle.tN "UNASSIGNED_STACK" Bundle.steD) (by decide +kernel)) (hts (.initialized Bundle.tN) (by decide +kernel)) (hs (.isRef (.static Bundle.tN "UNASSIGNED_STACK" Bundle.steD)) (by decide +kernel)) hA, vx_Zqof (hts (.laysStatic Bundle.tN "SUPPRESSED_SENTINEL" Bundle.listD) (by decide +kernel)) (hts (.initialized Bundle.tN) (by decide +kernel)) (hs (.isRef (.static Bundle.tN "SUPPRESSED_SENTINEL" Bundle.listD)) (by decide +kernel)) hA⟩, ?_, ?_, ?_⟩
  · intro q hq
    obtain ⟨a, c, cell, k, h1, -⟩ := Cond.exactly_spec (hs _ (law_str2 q hq))
    exact ⟨a, vk_R.of (hts _ (law_str1 q hq)) h1⟩
  · intro q hq
    exact va_Nw.of rfl (hts _ (law_cst q hq))
  · intro q hq
    exact va_Nw.of (law_dclT q hq) (hts _ (law_dcl q hq))
theorem law_fl {l : Launch} (h : l.flags = flags0) : l.stackTraces = false := by
  unfold Launch.stackTraces
  rw [h]
  decide +kernel
