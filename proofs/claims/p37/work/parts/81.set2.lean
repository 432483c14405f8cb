theorem s_set {q p : gRF} {n d k t v : Nat} (h : sI q p n d k t v) (x : Int32) : cSet q.1 x = itN 8 (mO1 p.1 n x (-1)) (nI 0) := by
  apply bB_ext
  intro y hy
  have h1 : bB (cSet q.1 x) y = (decide (y < 8) && !decide (cValueNow q.1 (nI y) ≤ x)) := bB_itW (P := fun c => !decide (cValueNow q.1 (nI c) ≤ x)) (Nat.le_refl _) hy
  have h2 : itN 8 (mO1 p.1 n x (-1)) (nI 0) = itN 8 (fun c b => b ||| (if (fun c => decide (mVal p.1 n (nI 0) (nI c) (-1) ≤ x)) c then nI 0 else nI 1 <<< (nI c &&& 31))) (nI 0) := itN_congr (fun c b _ => by simp [mO1, mOb]) _
  rw [h1, h2, bB_itO (P := fun c => decide (mVal p.1 n (nI 0) (nI c) (-1) ≤ x)) (Nat.le_refl _) hy]
  by_cases e : y < 8
  · rw [s_level h e]
  · simp [e]
