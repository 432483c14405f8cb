theorem lg_cmp_self (x : Int64) : lg_cmp x x = 0 := by simp [lg_cmp]
def lwGo (p_ : Program) (l : Launch) (e_ : Env) (s : State) (m : MethodId) (b : Nat) (below : List Frame) (meth : Method) (c : Code) (G : gG) (zc zm : Nat → Nat) (o i : Nat) (cells slots : Nat) (Q : State → Prop) : Prop :=
  ∀ (q p : gRF) (n d k t v : Nat) (g : Nat → Int64) (H : Heap) (locs : List Loc) (ls : Array Slot), sX q p n d k t v → lwH G s zc zm o q p g H locs → lv_has ls 7 (lwLs b zc zm o i) → W p_ l e_ room_1 s m #[Value.ref b] below meth c H locs cells slots Q (F0 m 2042 ls [])
section S98
variable {p_ : Program} {e_ : Env} {l : Launch} {s : State} {m : MethodId} {below : List Frame} {meth : Method} {c : Code} {b L : Nat} {xs : Nat → Int32} {G : gG} {zc zm : Nat → Nat} {o : Nat} {q q2 p p2 : gRF} {g : Nat → Int64} {H : Heap} {locs : List Loc} {cells slots pc i : Nat} {ls : Array Slot} {rest : List Value} {Q : State → Prop}
theorem law_ti (F : lwF p_ l s m meth c b L xs G) {K : Nat} {cd E A : Int32} (hs : simOK q q2 p2 K cd E A) (hH : lwH G s zc zm o (if K = 0 then q2 else q) p2 g H locs) (hg : K = 0 → g 0 = E.toInt64) (hl : lv_has ls 7 ((5, .int cd) :: lwLs b zc zm o i)) {t13 t30 : Nat} {off : Int}
    (d0 : decode code pc = .ok (.istore 6, 2)) (d1 : decode code (pc + 2) = .ok (.aload_n 2, 1)) (d2 : decode code (pc + 2 + 1) = .ok (.invokevirtual 117, 3)) (d3 : decode code (pc + 2 + 1 + 3) = .ok (.iload 5, 2)) (d4 : decode code (pc + 2 + 1 + 3 + 2) = .ok (.if_icmp .eq 5, 3)) (e4 : ((pc + 2 + 1 + 3 + 2 : Nat) : Int) + 5 = (t13 : Int)) (d5 : decode code t13 = .ok (.iload 5, 2)) (d6 : decode code (t13 + 2) = .ok (.ifCond .ne 15, 3)) (e6 : ((t13 + 2 : Nat) : Int) + 15 = (t30 : Int)) (d7 : decode code (t13 + 2 + 3) = .ok (.aload_n 3, 1)) (d8 : decode code (t13 + 2 + 3 + 1) = .ok (.iconst 0, 1)) (d9 : decode code (t13 + 2 + 3 + 1 + 1) = .ok (.laload, 1)) (d10 : decode code (t13 + 2 + 3 + 1 + 1 + 1) = .ok (.iload 6, 2)) (d11 : decode code (t13 + 2 + 3 + 1 + 1 + 1 + 2) = .ok (.i2l, 1)) (d12 : decode code (t13 + 2 + 3 + 1 + 1 + 1 + 2 + 1) = .ok (.lcmp, 1)) (d13 : decode code (t13 + 2 + 3 + 1 + 1 + 1 + 2 + 1 + 1) = .ok (.ifCond .eq 5, 3)) (e13 : ((t13 + 2 + 3 + 1 + 1 + 1 + 2 + 1 + 1 : Nat) : Int) + 5 = (t30 : Int)) (d14 : decode code t30 = .ok (.goto off, 3)) (e14 : (t30 : Int) + off = ((2042 : Nat) : Int))
    (hcl : cells + 0 ≤ 601024 ∧ slots + 0 ≤ 7293034) (kk : lwGo p_ l e_ s m b below meth c G zc zm o i cells slots Q) : W p_ l e_ room_1 s m #[Value.ref b] below meth c H locs cells slots Q (F0 m pc ls [.int A]) := by
  obtain ⟨⟨hx, hb, hr, hml, hown, hts, hX, hbl, hlocks⟩, hfl, hK, -, -, hL⟩ := id F
  obtain ⟨s1, s2, s3, n9, d9', k9, t9, v9, s4⟩ := hs
  refine lv_istore (lv' := (6, .int A) :: (5, .int cd) :: lwLs b zc zm o i) hx hb d0 hl (by decide) rfl (fun ls hl => ?_)
  have hend : ∀ ls, lv_has ls 7 ((6, .int A) :: (5, .int cd) :: lwLs b zc zm o i) → W p_ l e_ room_1 s m #[Value.ref b] below meth c H locs cells slots Q (F0 m t30 ls []) := fun ls hl => lv_goto (tgt := 2042) hx hb d14 e14 (kk _ _ _ _ _ _ _ g H locs ls s4 hH (lv_sub hl [2, 3, 4, 5, 6] rfl))
  refine lv_aload_n hx hb d1 rfl (lv_at hl 4 rfl) ?_
  refine law_c3 F hH hl.1 d2 (Nat.le_of_ble_eq_true rfl) hcl ?_
  refine lv_iload hx hb d3 (lv_at hl 1 rfl) ?_
  refine lv_icmp_eq (tgt := t13) hx hb d4 e4 (fun _ => ?_) (fun h => absurd s1 h)
  refine lv_iload hx hb d5 (lv_at hl 1 rfl) ?_
  refine lv_if_ne (tgt := t30) hx hb d6 e6 (fun _ => hend ls hl) (fun h0 => ?_)
  have hK0 : K = 0 := s2.mp h0
  refine lv_aload_n hx hb d7 rfl (lv_at hl 3 rfl) ?_
  refine lv_iconst (v := nI 0) hx hb d8 (by decide +kernel) ?_
  refine va_lald hx hb hK.1 (gO_P hH.2.2.1) 0 2 rfl rfl (vp_in_nI (by decide) (by decide)) d9 ?_
  refine lv_iload hx hb d10 (lv_at hl 0 rfl) ?_
  refine lv_i2l (v := A.toInt64) hx hb d11 rfl ?_
  refine W.lcmp hx hb d12 ?_
  refine lv_if_eq (tgt := t30) hx hb d13 e13 (fun _ => hend ls hl) (fun h1 => absurd ?_ h1)
  rw [nI_clamp (by decide), hg hK0, s3 hK0]
  exact lg_cmp_self _
theorem law_tb (F : lwF p_ l s m meth c b L xs G) {K : Nat} {cd : Int32} {E A : Bool} (hs : simOK q q2 p2 K cd (b2i E) (b2i A)) (hH : lwH G s zc zm o (if K = 0 then q2 else q) p2 g H locs) (hg : K = 0 → g 0 = (b2i E).toInt64) (hl : lv_has ls 7 ((5, .int cd) :: lwLs b zc zm o i)) {t13 t23 t24 t30 : Nat} {off : Int}
    (d0 : decode code pc = .ok (.istore 6, 2)) (d1 : decode code (pc + 2) = .ok (.aload_n 2, 1)) (d2 : decode code (pc + 2 + 1) = .ok (.invokevirtual 117, 3)) (d3 : decode code (pc + 2 + 1 + 3) = .ok (.iload 5, 2)) (d4 : decode code (pc + 2 + 1 + 3 + 2) = .ok (.if_icmp .eq 5, 3)) (e4 : ((pc + 2 + 1 + 3 + 2 : Nat) : Int) + 5 = (t13 : Int)) (d5 : decode code t13 = .ok (.iload 5, 2)) (d6 : decode code (t13 + 2) = .ok (.ifCond .ne 22, 3)) (e6 : ((t13 + 2 : Nat) : Int) + 22 = (t30 : Int)) (d7 : decode code (t13 + 2 + 3) = .ok (.aload_n 3, 1)) (d8 : decode code (t13 + 2 + 3 + 1) = .ok (.iconst 0, 1)) (d9 : decode code (t13 + 2 + 3 + 1 + 1) = .ok (.laload, 1)) (d10 : decode code (t13 + 2 + 3 + 1 + 1 + 1) = .ok (.iload 6, 2)) (d11 : decode code (t13 + 2 + 3 + 1 + 1 + 1 + 2) = .ok (.ifCond .eq 7, 3)) (e11 : ((t13 + 2 + 3 + 1 + 1 + 1 + 2 : Nat) : Int) + 7 = (t23 : Int)) (d11a : decode code (t13 + 2 + 3 + 1 + 1 + 1 + 2 + 3) = .ok (.lconst 1, 1)) (d11b : decode code (t13 + 2 + 3 + 1 + 1 + 1 + 2 + 3 + 1) = .ok (.goto 4, 3)) (e11b : ((t13 + 2 + 3 + 1 + 1 + 1 + 2 + 3 + 1 : Nat) : Int) + 4 = (t24 : Int)) (d11c : decode code t23 = .ok (.lconst 0, 1)) (e11c : t23 + 1 = t24) (d12 : decode code t24 = .ok (.lcmp, 1)) (d13 : decode code (t24 + 1) = .ok (.ifCond .eq 5, 3)) (e13 : ((t24 + 1 : Nat) : Int) + 5 = (t30 : Int)) (d14 : decode code t30 = .ok (.goto off, 3)) (e14 : (t30 : Int) + off = ((2042 : Nat) : Int))
    (hcl : cells + 0 ≤ 601024 ∧ slots + 0 ≤ 7293034) (kk : lwGo p_ l e_ s m b below meth c G zc zm o i cells slots Q) : W p_ l e_ room_1 s m #[Value.ref b] below meth c H locs cells slots Q (F0 m pc ls [.int (b2i A)]) := by
  obtain ⟨⟨hx, hb, hr, hml, hown, hts, hX, hbl, hlocks⟩, hfl, hK, -, -, hL⟩ := id F
  obtain ⟨s1, s2, s3, n9, d9', k9, t9, v9, s4⟩ := hs
  refine lv_istore (lv' := (6, .int (b2i A)) :: (5, .int cd) :: lwLs b zc zm o i) hx hb d0 hl (by decide) rfl (fun ls hl => ?_)
  have hend : ∀ ls, lv_has ls 7 ((6, .int (b2i A)) :: (5, .int cd) :: lwLs b zc zm o i) → W p_ l e_ room_1 s m #[Value.ref b] below meth c H locs cells slots Q (F0 m t30 ls []) := fun ls hl => lv_goto (tgt := 2042) hx hb d14 e14 (kk _ _ _ _ _ _ _ g H locs ls s4 hH (lv_sub hl [2, 3, 4, 5, 6] rfl))
  refine lv_aload_n hx hb d1 rfl (lv_at hl 4 rfl) ?_
  refine law_c3 F hH hl.1 d2 (Nat.le_of_ble_eq_true rfl) hcl ?_
  refine lv_iload hx hb d3 (lv_at hl 1 rfl) ?_
  refine lv_icmp_eq (tgt := t13) hx hb d4 e4 (fun _ => ?_) (fun h => absurd s1 h)
  refine lv_iload hx hb d5 (lv_at hl 1 rfl) ?_
  refine lv_if_ne (tgt := t30) hx hb d6 e6 (fun _ => hend ls hl) (fun h0 => ?_)
  have hK0 : K = 0 := s2.mp h0
  refine lv_aload_n hx hb d7 rfl (lv_at hl 3 rfl) ?_
  refine lv_iconst (v := nI 0) hx hb d8 (by decide +kernel) ?_
  refine va_lald hx hb hK.1 (gO_P hH.2.2.1) 0 2 rfl rfl (vp_in_nI (by decide) (by decide)) d9 ?_
  rw [nI_clamp (by decide), hg hK0, s3 hK0]
  refine lv_iload hx hb d10 (lv_at hl 0 rfl) ?_
  have hcmp : ∀ v : Int64, v = (b2i A).toInt64 → W p_ l e_ room_1 s m #[Value.ref b] below meth c H locs cells slots Q (F0 m t24 ls [.long v, .long (b2i A).toInt64]) := fun v hv => by
    subst hv
    refine W.lcmp hx hb d12 ?_
    exact lv_if_eq (tgt := t30) hx hb d13 e13 (fun _ => hend ls hl) (fun h1 => absurd (lg_cmp_self _) h1)
  refine lv_if_eq (tgt := t23) hx hb d11 e11 (fun h2 => ?_) (fun h2 => ?_)
  · refine lv_lconst (v := 0) hx hb d11c rfl ?_
    rw [e11c]
    exact hcmp 0 (by rw [h2]; decide)
  · refine lv_lconst (v := 1) hx hb d11a rfl ?_
    refine lv_goto (tgt := t24) hx hb d11b e11b ?_
    exact hcmp 1 (by rw [b2i_t h2]; decide)
theorem law_td (F : lwF p_ l s m meth c b L xs G) (Z : lwZ s zc zm o) {n d k t v : Nat} (hs : sX q (p.1, upF p.2 0 (nI 0)) n d k t v) (hH : lwH G s zc zm o q p g H locs) (hl : lv_has ls 7 (lwLs b zc zm o i)) {y1 y2 : MethodName} {by1 by2 : ByteArray} {ml1 ml2 id1 id2 fr1 lo1 fr2 lo2 : Nat} {ws1 ws2 : List Cond} {E A : Int32} (hEA : E = A)
    (hM1 : gMr l y1 ws1 fr1 lo1 G H [.ref (zc 0)] E) (cw1 : CallW room_1 s #[Value.ref b] RL RX6 id1 y1 by1 ml1 (some .int) ws1 { frames := fr1, cells := 0, slots := 0, locals := lo1 } 0 0 0)
    (hM2 : gMw l y2 ws2 fr2 lo2 G H [.ref (zm 0)] A (wRM G zm p.1 (upF p.2 0 (nI 0))) (gF zm 20)) (cw2 : CallW room_1 s #[Value.ref b] RL RX7 id2 y2 by2 ml2 (some .int) ws2 { frames := fr2, cells := 0, slots := 0, locals := lo2 } 0 0 0) {off : Int}
    (d0 : decode code pc = .ok (.aload_n 1, 1)) (d1 : decode code (pc + 1) = .ok (.invokevirtual id1, 3)) (d2 : decode code (pc + 1 + 3) = .ok (.aload_n 2, 1)) (d3 : decode code (pc + 1 + 3 + 1) = .ok (.invokevirtual id2, 3)) (d4 : decode code (pc + 1 + 3 + 1 + 3) = .ok (.if_icmp .eq off, 3)) (e4 : ((pc + 1 + 3 + 1 + 3 : Nat) : Int) + off = ((2042 : Nat) : Int))
    (hcl : cells + 0 ≤ 601024 ∧ slots + 0 ≤ 7293034) (kk : lwGo p_ l e_ s m b below meth c G zc zm o i cells slots Q) : W p_ l e_ room_1 s m #[Value.ref b] below meth c H locs cells slots Q (F0 m pc ls []) := by
  obtain ⟨⟨hx, hb, hr, hml, hown, hts, hX, hbl, hlocks⟩, hfl, hK, -, -, hL⟩ := id F
  refine lv_aload_n hx hb d0 rfl (lv_at hl 3 rfl) ?_
  refine law_c4 F hH hM1 cw1 hl.1 d1 (Nat.le_of_ble_eq_true rfl) hcl ?_
  refine lv_aload_n hx hb d2 rfl (lv_at hl 2 rfl) ?_
  refine law_c2d (As := []) (rest := [.int E]) (p2 := (p.1, upF p.2 0 (nI 0))) F Z hH hM2 cw2 rfl hl.1 d3 (Nat.le_of_ble_eq_true rfl) hcl (fun H1 locs1 hH1 => ?_)
  exact lv_icmp_eq (tgt := 2042) hx hb d4 e4 (fun _ => kk _ _ _ _ _ _ _ g H1 locs1 ls hs hH1 hl) (fun h => absurd hEA h)
end S98
