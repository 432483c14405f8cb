/-! calls that don't throw: what only reads makes nothing -/
abbrev gMq (l : Launch) (y : MethodName) (ws : List Cond) (fr lo mc : Nat) (G : gG) (H0 : Heap) (av : List Value) (E : Int32) : Prop := Met l y ws { frames := fr, cells := mc, slots := 6 * mc, locals := lo } (gPx G H0 av) (QcRead E) mc (6 * mc) (fun _ => False)
abbrev gMqw (l : Launch) (y : MethodName) (ws : List Cond) (fr lo mc : Nat) (G : gG) (H0 : Heap) (av : List Value) (E : Int32) (w' : va_W) (A : Nat → Prop) : Prop := Met l y ws { frames := fr, cells := mc, slots := 6 * mc, locals := lo } (gPx G H0 av) (va_Qi (fun (x : Int32) (_ : Unit) => x = E) (fun _ t => va_P G.1 vwCl w' t.heap) A) mc (6 * mc) A
theorem gMq_of {l : Launch} {y : MethodName} {ws : List Cond} {fr lo mc : Nat} {G : gG} {H0 : Heap} {av : List Value} {K : Nat} {E : Int32} (h : gMxr l y ws fr lo mc G H0 av K E) (hK : K = 0) : gMq l y ws fr lo mc G H0 av E := by
  intro p e ha h1 h2 s m args below hf happ hP hk
  obtain ⟨n, o, a1, a2, a3, a4⟩ := h p e ha h1 h2 s m args below hf happ hP hk
  refine ⟨n, o, a1, a2, a3, ?_⟩
  rcases a4 with ⟨⟨⟨r, u, hr, ⟨-, hE⟩, hB⟩, hF⟩, L, hL⟩ | ⟨q, hq, E2, ce, L, ⟨u, hx, -⟩, -⟩
  · exact ⟨⟨by rw [hr, hE], hB.trans hP.2.1.symm⟩, L, hL⟩
  · exact absurd hK hx
theorem gMqw_of {l : Launch} {y : MethodName} {ws : List Cond} {fr lo mc : Nat} {G : gG} {H0 : Heap} {av : List Value} {K : Nat} {E : Int32} {w' : va_W} {A : Nat → Prop} (h : gMxw l y ws fr lo mc G H0 av K E w' A) (hK : K = 0) : gMqw l y ws fr lo mc G H0 av E w' A := by
  intro p e ha h1 h2 s m args below hf happ hP hk
  obtain ⟨n, o, a1, a2, a3, a4⟩ := h p e ha h1 h2 s m args below hf happ hP hk
  refine ⟨n, o, a1, a2, a3, ?_⟩
  rcases a4 with ⟨⟨⟨r, u, hr, ⟨-, hE⟩, hB⟩, hF⟩, L, hL⟩ | ⟨q, hq, E2, ce, L, ⟨u, hx, -⟩, -⟩
  · exact ⟨⟨⟨r, u, hr, hE, hB⟩, hF⟩, L, hL⟩
  · exact absurd hK hx
section SA0
variable {p : Program} {l : Launch} {e : Env} {R : Room} {s : State} {m : MethodId} {args : Array Value} {below : List Frame} {meth : Method} {c : Code} {H : Heap} {locs : List Loc} {cells slots : Nat} {Q : State → Prop} {pc : Nat} {ls : Array Slot} {rest st0 : List Value} {a : Array Value}
theorem stand_back {T T' : State} {L : List Loc} {mc ms : Nat} (X : Stand p l e R s m args below meth c T locs cells slots) (X' : Stand p l e R s m args below meth c T' (locs ++ L) (cells + mc) (slots + ms)) (hL : L = []) (hh : T'.heap = T.heap) : Stand p l e R s m args below meth c T' locs cells slots := by
  subst hL
  obtain ⟨a1, a2, a3, a4, a5, a6⟩ := X'.same
  obtain ⟨b1, b2, b3, b4, b5, b6⟩ := X.same
  have e9 : (T'.setVm s.vm).heap = (T.setVm s.vm).heap := hh
  refine { X' with same := ⟨a1, a2, by rw [e9]; exact b3, a4, by rw [e9]; exact b5, ?_⟩ }
  rw [List.append_nil] at a6
  exact a6
theorem g_callQ {r : Int32} {mc ms : Nat} (hr : va_Run p l e R s m args below meth c H locs cells slots mc ms (F0 m pc ls st0) rest (QcRead r a) (fun _ => False)) (kk : W p l e R s m args below meth c H locs cells slots Q (F0 m (pc + 3) ls (.int r :: rest))) : W p l e R s m args below meth c H locs cells slots Q (F0 m pc ls st0) := by
  intro T hT X
  obtain ⟨v, st₀, t, T', L, h0, X', hL, e1, e2, ⟨hv, hh⟩, st⟩ := hr T hT X
  cases hv
  have hL0 : L = [] := by
    cases L with
    | nil => rfl
    | cons q _ => exact (hL q List.mem_cons_self).elim
  have h9 : T'.heap = H := by rw [e1, hh, h0]
  obtain ⟨t2, a1, b1⟩ := kk T' h9 (stand_back X X' hL0 (h9.trans hT.symm))
  exact ⟨t2, st t2 a1, b1⟩
end SA0
