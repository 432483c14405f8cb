abbrev vwCl : List vw_C := [(RX0, TX0, 7), (RX1, TX1, 4), (RX2, TX2, 7), (RX3, TX3, 2), (RX4, TX4, 6), (RX5, TX5, 1), (RX6, TX6, 7)]
abbrev gG : Type := va_G × (ClassId × (ClassId × (ClassId × Nat)))
abbrev gI (G : gG) : ClassId := G.2.1
abbrev gZ (G : gG) : ClassId := G.2.2.1
abbrev gJ (G : gG) : ClassId := G.2.2.2.1
abbrev gB (G : gG) : Nat := G.2.2.2.2
abbrev gTys (G : gG) : List (ClassId × FieldType) := [(gI G, .int)]
def gNest (U : State) : Prop := va_Nw (.methodLinkNest RX1 37 yX6_withBit "Rotaforge") U ∧ va_Nw (.methodLinkNest RX3 30 yX6_hasBit "Rotaforge") U ∧ va_Nw (.methodLinkNest RX3 39 yX6_withBit "Rotaforge") U
def gK (G : gG) (U : State) : Prop := va_K G.1 vwCl (gTys G) U ∧ gNest U
theorem gK.warm {G : gG} {s U : State} (hW : s.WarmedH U.vm) (h : gK G s) : gK G U := ⟨va_K.moved hW.alike h.1, va_Nw.warmM hW h.2.1, va_Nw.warmM hW h.2.2.1, va_Nw.warmM hW h.2.2.2⟩
theorem gK.calling {G : gG} {U : State} {g : JFrame} {mk : MethodId} {a : Array Value} (h : gK G U) : gK G (U.calling g mk a) := ⟨va_K.moved (u := U) (U := U.calling g mk a) (Vm.Alike.refl U.vm) h.1, va_Nw.same (u := U) rfl rfl h.2.1, va_Nw.same (u := U) rfl rfl h.2.2.1, va_Nw.same (u := U) rfl rfl h.2.2.2⟩
def gPc (G : gG) (H0 : Heap) (av : List Value) : Array Value → State → Prop := va_Pc av (fun U => U.heap = H0 ∧ gK G U)
theorem gPc_blind {G : gG} {H0 : Heap} {av : List Value} : FrameBlind (gPc G H0 av) := fun _ _ _ _ q => ⟨q.1, q.2.1, q.2.2.calling⟩
theorem g_preV {s : State} {G : gG} {H : Heap} {ws : va_W} {b : Nat} {As : List Value} (hK : gK G s) (hP : va_P G.1 vwCl ws H) {q0 ci : Nat} {q : vw_C} {fs : List Value} (hc : vwCl[ci]? = some q) (he : ws[q0]? = some (b, .inr (ci, fs))) : PreV s H q.1 b (gPc G H (.ref b :: As)) As :=
  ⟨gPc_blind, va_recv hK.1 hP hc he, fun _ hU hW => ⟨rfl, hU, hK.warm hW⟩⟩
theorem g_preS {s : State} {G : gG} {H : Heap} {As : List Value} (hK : gK G s) : PreS s H (gPc G H As) As := ⟨gPc_blind, fun _ hU hW => ⟨rfl, hU, hK.warm hW⟩⟩
abbrev gMr (l : Launch) (y : MethodName) (ws : List Cond) (fr lo : Nat) (G : gG) (H0 : Heap) (av : List Value) (E : Int32) : Prop := Met l y ws { frames := fr, cells := 0, slots := 0, locals := lo } (gPc G H0 av) (QcRead E) 0 0 (fun _ => False)
theorem g_ret {E S : Int32} {a : Array Value} {st t : State} (h : E = S) (ht : t.heap = st.heap) : QcRead S a st (.returned (some (.int E))) t := ⟨by rw [h], ht⟩
theorem g_no {P : Loc → Prop} : ∀ q ∈ ([] : List Loc), P q := fun _ h => absurd h List.not_mem_nil
def b2i (b : Bool) : Int32 := bif b then nI 1 else nI 0
theorem b2i_z (b : Bool) : narrow .boolean (.int (b2i b)) = .int (b2i b) := by cases b <;> rfl
theorem b2i_f {b : Bool} (h : b2i b = 0) : b = false := by cases b with
  | false => rfl
  | true => exact absurd h (by decide)
theorem b2i_t {b : Bool} (h : ¬ b2i b = 0) : b = true := by cases b with
  | false => exact absurd rfl h
  | true => rfl
theorem z_nar {v : Int32} {b : Bool} (h : v = b2i b) : narrow .boolean (.int v) = .int v := by rw [h]; exact b2i_z b
def rAt (n : Nat) (g : Nat → Int32) (k : Int32) : Int32 := if k < 0 then -1 else if nI n ≤ k then -1 else g k.toNatClampNeg
def rPut (n : Nat) (g : Nat → Int32) (k v : Int32) : Nat → Int32 := if k < 0 then g else if nI n ≤ k then g else upd g k.toNatClampNeg v
theorem g_in {x : Int32} {n : Nat} (h1 : ¬ x < 0) (h2 : ¬ nI n ≤ x) (hn : n < 2 ^ 31) : vp_in x n := by
  rw [vp_in_iff]
  rw [Int32.lt_iff_toInt_lt, Int32.toInt_zero] at h1
  rw [Int32.le_iff_toInt_le, nI_toInt hn] at h2
  omega
def upR (r : Nat → Nat → Int32) (k : Nat) (g : Nat → Int32) : Nat → Nat → Int32 := fun j => bif Nat.beq j k then g else r j
def upF (f : Nat → Int32) (k : Nat) (v : Int32) : Nat → Int32 := fun j => bif Nat.beq j k then v else f j
def gF (z : Nat → Nat) (N : Nat) : Nat → Prop := fun q => ∃ k, k < N ∧ q = z k
def gDis (z : Nat → Nat) (N : Nat) : Prop := ∀ i j, i < N → j < N → z i = z j → i = j
theorem gD_of {ws : va_W} {z : Nat → Nat} {N : Nat} (h : ws.map Prod.fst = (List.range N).map z) (hz : gDis z N) : va_D (gF z N) ws := by
  have key : ∀ (k : Nat) (q : Nat × va_E), ws[k]? = some q → k < N ∧ q.1 = z k := by
    intro k q hk
    have h1 : (ws.map Prod.fst)[k]? = some q.1 := by rw [List.getElem?_map, hk]; rfl
    rw [h, List.getElem?_map] at h1
    by_cases hkN : k < N
    · rw [List.getElem?_range hkN] at h1
      exact ⟨hkN, (Option.some.inj h1).symm⟩
    · rw [List.getElem?_eq_none (by simp; omega)] at h1
      cases h1
  refine ⟨fun i j p q hi hj hpq => ?_, fun k q hk => ?_⟩
  · obtain ⟨a1, a2⟩ := key i p hi
    obtain ⟨b1, b2⟩ := key j q hj
    exact hz i j a1 b1 (by rw [← a2, ← b2]; exact hpq)
  · obtain ⟨a1, a2⟩ := key k q hk
    exact ⟨k, a1, a2⟩
theorem gP_set {D : va_G} {cl : List vw_C} {A : Nat → Prop} {p : Nat} {ws : va_W} {a : Nat} {e0 e : va_E} {H H1 : Heap} (h : va_P D cl ws H) (hD : va_D A ws) (hp : ws[p]? = some (a, e0)) (he : va_at D cl (a, e) H1) (oq : ∀ q : Nat, q < H.size → ¬ q = a → H1[q]? = H[q]?) : va_P D cl (ws.set p (a, e)) H1 := by
  have hl := (List.getElem?_eq_some_iff.mp hp).1
  intro k q hk
  by_cases hkp : k = p
  · subst hkp
    rw [List.getElem?_set_self hl] at hk
    cases hk
    exact he
  · rw [List.getElem?_set_ne (Ne.symm hkp)] at hk
    exact (h k q hk).kept (oq q.1 (h k q hk).lt (fun z => hkp (hD.1 k p q (a, e0) hk hp z)))
section G1
variable {p : Program} {l : Launch} {e : Env} {R : Room} {s : State} {m : MethodId} {args : Array Value} {below : List Frame} {meth : Method} {c : Code} {H : Heap} {locs : List Loc} {cells slots : Nat} {Q : State → Prop} {pc : Nat} {ls : Array Slot} {rest st0 : List Value} {a : Array Value} {A0 A1 : Nat → Prop} {H0 : Heap} {mc ms : Nat} {D : va_G} {cl : List vw_C} {free : Addr → Prop}
theorem g_callR {r : Int32} (hr : va_Run p l e R s m args below meth c H locs cells slots 0 0 (F0 m pc ls st0) rest (QcRead r a) (fun _ => False)) (kk : W p l e R s m args below meth c H locs cells slots Q (F0 m (pc + 3) ls (.int r :: rest))) : W p l e R s m args below meth c H locs cells slots Q (F0 m pc ls st0) := by
  intro T hT X
  obtain ⟨v, st₀, t, T', L, h0, X', hL, e1, e2, ⟨hv, hh⟩, st⟩ := hr T hT X
  cases hv
  obtain ⟨t2, a1, b1⟩ := kk T' (by rw [e1, hh, h0]) (Stand.forget X' (fun q h => (hL q h).elim))
  exact ⟨t2, st t2 a1, b1⟩
theorem g_callw {E : Int32} {ws' : va_W} (hr : va_Run p l e R s m args below meth c H locs cells slots 0 0 (F0 m pc ls st0) rest (va_Qi (fun (x : Int32) (_ : Unit) => x = E) (fun _ t => va_P D cl ws' t.heap) A1 a) free) (hS : va_S A0 H0 H locs) (hA : ∀ q, A1 q → A0 q) (hf : ∀ q, free q → A0 q)
    (kk : ∀ (H1 : Heap) (locs1 : List Loc), va_P D cl ws' H1 → (∀ q : Nat, q < H.size → ¬ A1 q → H1[q]? = H[q]?) → va_S A0 H0 H1 locs1 → W p l e R s m args below meth c H1 locs1 cells slots Q (F0 m (pc + 3) ls (.int E :: rest))) : W p l e R s m args below meth c H locs cells slots Q (F0 m pc ls st0) :=
  va_calli hr hS (fun q _ h => hA q h) hf (fun r _ t H1 locs1 ht _ hw hB _ hk hS => by subst hw; exact kk H1 locs1 (by rw [← ht]; exact hB) hk hS)
theorem g_callwv {ws' : va_W} (hr : va_Run p l e R s m args below meth c H locs cells slots 0 0 (F0 m pc ls st0) rest (va_Qv (fun (_ : Unit) => True) (fun _ t => va_P D cl ws' t.heap) A1 a) free) (hS : va_S A0 H0 H locs) (hA : ∀ q, A1 q → A0 q) (hf : ∀ q, free q → A0 q)
    (kk : ∀ (H1 : Heap) (locs1 : List Loc), va_P D cl ws' H1 → (∀ q : Nat, q < H.size → ¬ A1 q → H1[q]? = H[q]?) → va_S A0 H0 H1 locs1 → W p l e R s m args below meth c H1 locs1 cells slots Q (F0 m (pc + 3) ls rest)) : W p l e R s m args below meth c H locs cells slots Q (F0 m pc ls st0) :=
  va_callv hr hS (fun q _ h => hA q h) hf (fun _ t H1 locs1 ht _ _ hB _ hk hS => kk H1 locs1 (by rw [← ht]; exact hB) hk hS)
theorem lv_cv {nL : Nat} {L L' : List (Nat × Value)} (h : lv_has ls nL L) (e : L = L') : lv_has ls nL L' := e ▸ h
end G1
theorem gl_s {x : Nat × Value} {L L' : List (Nat × Value)} (t : L = L') : x :: L = x :: L' := by rw [t]
theorem gl_i {k : Nat} {a b : Int32} {L L' : List (Nat × Value)} (h : a = b) (t : L = L') : (k, Value.int a) :: L = (k, Value.int b) :: L' := by rw [h, t]
theorem gs_i {a b : Int32} {L L' : List Value} (h : a = b) (t : L = L') : Value.int a :: L = Value.int b :: L' := by rw [h, t]
theorem gs_s {x : Value} {L L' : List Value} (t : L = L') : x :: L = x :: L' := by rw [t]
theorem g_st {m : MethodId} {pc : Nat} {ls : Array Slot} {st st' : List Value} (h : st = st') : F0 m pc ls st = F0 m pc ls st' := by rw [h]
theorem g_loop (GW : JFrame → Prop) (m : MethodId) (pc nL : Nat) (st : List Value) (N : Nat) (L : Nat → List (Nat × Value)) (I : Nat → Prop) (step : ∀ i, i ≤ N → I i → (∀ ls, i < N → I (i + 1) → lv_has ls nL (L (i + 1)) → GW (F0 m pc ls st)) → ∀ ls, lv_has ls nL (L i) → GW (F0 m pc ls st)) : ∀ i, i ≤ N → I i → ∀ ls, lv_has ls nL (L i) → GW (F0 m pc ls st) := by
  have key : ∀ k i, i + k = N → I i → ∀ ls, lv_has ls nL (L i) → GW (F0 m pc ls st) := by
    intro k
    induction k with
    | zero => intro i hi hI ls hl; exact step i (by omega) hI (fun ls h _ _ => absurd h (by omega)) ls hl
    | succ k ih => intro i hi hI ls hl; exact step i (by omega) hI (fun ls _ hI' hl' => ih (i + 1) (by omega) hI' ls hl') ls hl
  intro i hi
  exact key (N - i) i (by omega)
theorem g_loopG {σ : Type} (GW : σ → Prop) (N : Nat) (I : Nat → σ → Prop) (step : ∀ i q, i ≤ N → I i q → (∀ q', i < N → I (i + 1) q' → GW q') → GW q) : ∀ i q, i ≤ N → I i q → GW q := by
  have key : ∀ k i q, i + k = N → I i q → GW q := by
    intro k
    induction k with
    | zero => intro i q hi hI; exact step i q (by omega) hI (fun _ h _ => absurd h (by omega))
    | succ k ih => intro i q hi hI; exact step i q (by omega) hI (fun q' _ hI' => ih (i + 1) q' (by omega) hI')
  intro i q hi
  exact key (N - i) i q (by omega)
theorem g_join {GW : JFrame → Prop} {g0 : JFrame} (m : MethodId) (pc nL : Nat) (L : List (Nat × Value)) (st : List Value) (hc : ∀ ls, lv_has ls nL L → GW (F0 m pc ls st)) (hm : (∀ ls, lv_has ls nL L → GW (F0 m pc ls st)) → GW g0) : GW g0 := hm hc
def itN {α : Type} : Nat → (Nat → α → α) → α → α
  | 0, _, a => a
  | n + 1, g, a => g n (itN n g a)
theorem itN_s {α : Type} (n : Nat) (g : Nat → α → α) (a : α) : itN (n + 1) g a = g n (itN n g a) := rfl
def lastN : Nat → (Nat → Bool) → Int32
  | 0, _ => -1
  | n + 1, P => if P n then nI n else lastN n P
def anyN : Nat → (Nat → Bool) → Bool
  | 0, _ => false
  | n + 1, P => anyN n P || P n
abbrev gRow (z : Nat → Nat) (i j : Nat) : Nat × va_E := (z i, .inr (5, [.ref (z j)]))
abbrev gArr (G : gG) (z : Nat → Nat) (j n : Nat) (g : Nat → Int32) : Nat × va_E := (z j, .inl (gI G, n, .inl g))
def wRF (G : gG) (z : Nat → Nat) (r : Nat → Nat → Int32) (f : Nat → Int32) : va_W :=
  [(z 0, .inr (6, [.ref (z 1), .ref (z 2), .ref (z 3), .ref (z 4), .ref (z 5), .int (f 0), .int (f 1)])),
   (z 1, .inr (3, [.ref (z 6), .ref (z 7)])),
   (z 2, .inr (1, [.ref (z 8), .ref (z 9), .ref (z 10), .int (f 2)])),
   (z 3, .inr (0, [.ref (z 11), .ref (z 12), .ref (z 13), .ref (z 14), .ref (z 15), .ref (z 16), .int (f 3)])),
   (z 4, .inr (2, [.ref (z 17), .ref (z 18), .ref (z 19), .ref (z 20), .ref (z 21), .ref (z 22), .int (f 4)])),
   (z 5, .inr (4, [.ref (z 23), .ref (z 24), .ref (z 25), .ref (z 26), .ref (z 27), .int (f 5)])),
   gRow z 6 28, gRow z 7 29, gRow z 8 30, gRow z 9 31, gRow z 10 32, gRow z 11 33, gRow z 12 34, gRow z 13 35, gRow z 14 36, gRow z 15 37, gRow z 16 38, gRow z 17 39, gRow z 18 40, gRow z 19 41, gRow z 20 42, gRow z 21 43, gRow z 22 44, gRow z 23 45, gRow z 24 46, gRow z 25 47, gRow z 26 48, gRow z 27 49,
   gArr G z 28 8 (r 0), gArr G z 29 8 (r 1), gArr G z 30 20 (r 2), gArr G z 31 20 (r 3), gArr G z 32 20 (r 4),
   gArr G z 33 200 (r 5), gArr G z 34 200 (r 6), gArr G z 35 200 (r 7), gArr G z 36 200 (r 8), gArr G z 37 200 (r 9), gArr G z 38 12 (r 10),
   gArr G z 39 200 (r 11), gArr G z 40 200 (r 12), gArr G z 41 200 (r 13), gArr G z 42 200 (r 14), gArr G z 43 200 (r 15), gArr G z 44 4 (r 16),
   gArr G z 45 42 (r 17), gArr G z 46 6 (r 18), gArr G z 47 6 (r 19), gArr G z 48 6 (r 20), gArr G z 49 6 (r 21)]
theorem gD_RF {G : gG} {z : Nat → Nat} {r : Nat → Nat → Int32} {f : Nat → Int32} (hz : gDis z 50) : va_D (gF z 50) (wRF G z r f) := gD_of rfl hz
theorem gS_RF {G : gG} {z : Nat → Nat} {r : Nat → Nat → Int32} {f : Nat → Int32} (g : Nat → Int32) : (wRF G z r f).set 33 (z 33, .inl (gI G, 200, .inl g)) = wRF G z (upR r 5 g) f := rfl
theorem gF_k {z : Nat → Nat} {N : Nat} (k : Nat) (h : k < N) : gF z N (z k) := ⟨k, h, rfl⟩
def wRow1 (G : gG) (h a n : Nat) (g : Nat → Int32) : va_W := [(h, .inr (5, [.ref a])), (a, .inl (gI G, n, .inl g))]
abbrev gMw (l : Launch) (y : MethodName) (ws : List Cond) (fr lo : Nat) (G : gG) (H0 : Heap) (av : List Value) (E : Int32) (w' : va_W) (A : Nat → Prop) : Prop := Met l y ws { frames := fr, cells := 0, slots := 0, locals := lo } (gPc G H0 av) (va_Qi (fun (x : Int32) (_ : Unit) => x = E) (fun _ t => va_P G.1 vwCl w' t.heap) A) 0 0 A
abbrev gMwv (l : Launch) (y : MethodName) (ws : List Cond) (fr lo : Nat) (G : gG) (H0 : Heap) (av : List Value) (w' : va_W) (A : Nat → Prop) : Prop := Met l y ws { frames := fr, cells := 0, slots := 0, locals := lo } (gPc G H0 av) (va_Qv (fun (_ : Unit) => True) (fun _ t => va_P G.1 vwCl w' t.heap) A) 0 0 A
abbrev gMp (l : Launch) (y : MethodName) (ws : List Cond) (fr lo : Nat) (G : gG) (H0 : Heap) (av : List Value) (b : Nat) (x : va_E) : Prop := Met l y ws { frames := fr, cells := 0, slots := 0, locals := lo } (gPc G H0 av) (va_Qv (fun (_ : Unit) => True) (fun _ t => va_at G.1 vwCl (b, x) t.heap) (fun q => q = b)) 0 0 (fun q => q = b)
section G2
variable {p : Program} {l : Launch} {e : Env} {R : Room} {s : State} {m : MethodId} {args : Array Value} {below : List Frame} {meth : Method} {c : Code} {H : Heap} {locs : List Loc} {cells slots : Nat} {Q : State → Prop} {pc : Nat} {ls : Array Slot} {rest st0 : List Value} {a : Array Value} {A0 A1 : Nat → Prop} {H0 : Heap} {mc ms : Nat} {D : va_G} {cl : List vw_C} {free : Addr → Prop}
theorem g_callp {b : Nat} {x : va_E} (hr : va_Run p l e R s m args below meth c H locs cells slots 0 0 (F0 m pc ls st0) rest (va_Qv (fun (_ : Unit) => True) (fun _ t => va_at D cl (b, x) t.heap) (fun q => q = b) a) (fun q => q = b)) (hS : va_S A0 H0 H locs) (hA : A0 b)
    (kk : ∀ (H1 : Heap) (locs1 : List Loc), va_at D cl (b, x) H1 → (∀ q : Nat, q < H.size → ¬ q = b → H1[q]? = H[q]?) → va_S A0 H0 H1 locs1 → W p l e R s m args below meth c H1 locs1 cells slots Q (F0 m (pc + 3) ls rest)) : W p l e R s m args below meth c H locs cells slots Q (F0 m pc ls st0) :=
  va_callv hr hS (fun _ _ h => h ▸ hA) (fun _ h => h ▸ hA) (fun _ t H1 locs1 ht _ _ hB _ hk hS => kk H1 locs1 (by rw [← ht]; exact hB) hk hS)
variable {cc : ByteArray} {tys : List (ClassId × FieldType)} {ws : va_W} {A : Nat → Prop} {ad : Nat}
theorem g_iald (hexec : p.tables.exec = Jvm.exec) (hb : c.code = cc) (hK : va_K D cl tys s) (hP : va_P D cl ws H) (q0 t0 : Nat) {cA : ClassId} {n : Nat} {f : Nat → Int32} (ha : ws[q0]? = some (ad, .inl (cA, n, .inl f))) (ht : tys[t0]? = some (cA, .int)) {i : Int32} (k : Nat) (hi : i = nI k) (hk : k < n) (hn : n < 2 ^ 31) (hdg : decode cc pc = .ok (.iaload, 1))
    (kk : W p l e R s m args below meth c H locs cells slots Q (F0 m (pc + 1) ls (.int (f k) :: rest))) : W p l e R s m args below meth c H locs cells slots Q (F0 m pc ls (.int i :: .ref ad :: rest)) := by
  subst hi
  refine va_iald hexec hb hK hP q0 t0 ha ht (vp_in_nI hk hn) hdg ?_
  rw [nI_clamp (Nat.lt_trans hk hn)]
  exact kk
theorem g_zald (hexec : p.tables.exec = Jvm.exec) (hb : c.code = cc) (hK : va_K D cl tys s) (hP : va_P D cl ws H) (q0 t0 : Nat) {cA : ClassId} {n : Nat} {f : Nat → Int32} (ha : ws[q0]? = some (ad, .inl (cA, n, .inl f))) (ht : tys[t0]? = some (cA, .boolean)) {i : Int32} (k : Nat) (hi : i = nI k) (hk : k < n) (hn : n < 2 ^ 31) (hdg : decode cc pc = .ok (.baload, 1))
    (kk : W p l e R s m args below meth c H locs cells slots Q (F0 m (pc + 1) ls (.int (f k) :: rest))) : W p l e R s m args below meth c H locs cells slots Q (F0 m pc ls (.int i :: .ref ad :: rest)) := by
  subst hi
  refine va_zald hexec hb hK hP q0 t0 ha ht (vp_in_nI hk hn) hdg ?_
  rw [nI_clamp (Nat.lt_trans hk hn)]
  exact kk
theorem g_iast (hexec : p.tables.exec = Jvm.exec) (hb : c.code = cc) (hK : va_K D cl tys s) (hP : va_P D cl ws H) (hD : va_D A ws) (hS : va_S A H0 H locs) (q0 t0 : Nat) {cA : ClassId} {n : Nat} {f : Nat → Int32} (ha : ws[q0]? = some (ad, .inl (cA, n, .inl f))) (ht : tys[t0]? = some (cA, .int)) {i x : Int32} (k : Nat) (hi : i = nI k) (hk : k < n) (hn : n < 2 ^ 31) (hdg : decode cc pc = .ok (.iastore, 1))
    (kk : ∀ (H1 : Heap) (locs1 : List Loc), va_P D cl (ws.set q0 (ad, .inl (cA, n, .inl (upd f k x)))) H1 → va_D A (ws.set q0 (ad, .inl (cA, n, .inl (upd f k x)))) → va_S A H0 H1 locs1 → W p l e R s m args below meth c H1 locs1 cells slots Q (F0 m (pc + 1) ls rest)) : W p l e R s m args below meth c H locs cells slots Q (F0 m pc ls (.int x :: .int i :: .ref ad :: rest)) := by
  subst hi
  refine va_iast hexec hb hK hP hD hS q0 t0 ha ht (vp_in_nI hk hn) hdg ?_
  rw [nI_clamp (Nat.lt_trans hk hn)]
  exact kk
theorem g_zast (hexec : p.tables.exec = Jvm.exec) (hb : c.code = cc) (hK : va_K D cl tys s) (hP : va_P D cl ws H) (hD : va_D A ws) (hS : va_S A H0 H locs) (q0 t0 : Nat) {cA : ClassId} {n : Nat} {f : Nat → Int32} (ha : ws[q0]? = some (ad, .inl (cA, n, .inl f))) (ht : tys[t0]? = some (cA, .boolean)) {i x : Int32} (k : Nat) (hi : i = nI k) (hk : k < n) (hn : n < 2 ^ 31) (hx : vp_nar .boolean x = x) (hdg : decode cc pc = .ok (.bastore, 1))
    (kk : ∀ (H1 : Heap) (locs1 : List Loc), va_P D cl (ws.set q0 (ad, .inl (cA, n, .inl (upd f k x)))) H1 → va_D A (ws.set q0 (ad, .inl (cA, n, .inl (upd f k x)))) → va_S A H0 H1 locs1 → W p l e R s m args below meth c H1 locs1 cells slots Q (F0 m (pc + 1) ls rest)) : W p l e R s m args below meth c H locs cells slots Q (F0 m pc ls (.int x :: .int i :: .ref ad :: rest)) := by
  subst hi
  refine va_zast hexec hb hK hP hD hS q0 t0 ha ht (vp_in_nI hk hn) hdg ?_
  rw [nI_clamp (Nat.lt_trans hk hn), hx]
  exact kk
end G2
theorem g_loopW (GW : Heap → List Loc → JFrame → Prop) (m : MethodId) (pc nL : Nat) (st : List Value) (N : Nat) (L : Nat → List (Nat × Value)) (I : Nat → Heap → List Loc → Prop) (step : ∀ i H locs, i ≤ N → I i H locs → (∀ H' locs' ls, i < N → I (i + 1) H' locs' → lv_has ls nL (L (i + 1)) → GW H' locs' (F0 m pc ls st)) → ∀ ls, lv_has ls nL (L i) → GW H locs (F0 m pc ls st)) : ∀ i H locs, i ≤ N → I i H locs → ∀ ls, lv_has ls nL (L i) → GW H locs (F0 m pc ls st) := by
  have key : ∀ k i H locs, i + k = N → I i H locs → ∀ ls, lv_has ls nL (L i) → GW H locs (F0 m pc ls st) := by
    intro k
    induction k with
    | zero => intro i H locs hi hI ls hl; exact step i H locs (by omega) hI (fun _ _ ls h _ _ => absurd h (by omega)) ls hl
    | succ k ih => intro i H locs hi hI ls hl; exact step i H locs (by omega) hI (fun H' locs' ls _ hI' hl' => ih (i + 1) H' locs' (by omega) hI' ls hl') ls hl
  intro i H locs hi
  exact key (N - i) i H locs (by omega)
section G3
variable {p : Program} {l : Launch} {e : Env} {R : Room} {s : State} {m : MethodId} {args : Array Value} {below : List Frame} {meth : Method} {c : Code} {H : Heap} {locs : List Loc} {cells slots : Nat} {Q : State → Prop} {pc : Nat} {ls : Array Slot} {rest st0 : List Value} {a : Array Value}
theorem g_callC {r : Int32} (hr : CallRun p l e R s m args below meth c H locs cells slots 0 0 (F0 m pc ls st0) rest (QcRead r a) (fun _ => False)) (kk : W p l e R s m args below meth c H locs cells slots Q (F0 m (pc + 3) ls (.int r :: rest))) : W p l e R s m args below meth c H locs cells slots Q (F0 m pc ls st0) := W.callR hr kk
end G3
