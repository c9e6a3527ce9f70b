theorem Fe.wf {c0 : Nat} {m m' : Me} (c : Fe c0 m m') (h : Wf12 m.1 (gR m)) : Wf12 m'.1 (gR m') := c.1.to (F := Wf12) h
theorem RC.pop {m : Me} {c0 k : Nat} {W : List Nat} {D : List (Nat × Nat)} (h : RC m c0 (k :: W) D) : RC (sI m 274 (upd (gI m 274) 54 (nI W.length))) c0 W D := by
  refine ⟨?_, fun i c hi => ?_, ?_, fun i j hi => ?_⟩
  · rw [gI_s, upd_ne (by decide)]; exact h.1
  · rw [gI_n (by decide), gI_n (by decide)]; exact h.2.1 i c hi
  · rw [gI_s, upd_same]
  · rw [gI_n (by decide)]
    refine h.2.2.2 i j ?_
    rw [List.reverse_cons]
    rw [List.getElem?_append_left (List.getElem?_eq_some_iff.mp hi).1]
    exact hi
theorem RC.top {m : Me} {c0 k : Nat} {W : List Nat} {D : List (Nat × Nat)} (h : RC m c0 (k :: W) D) : gI m 312 W.length = nI (rk k) := by
  refine h.2.2.2 _ _ ?_
  rw [List.reverse_cons, List.getElem?_append_right (by rw [List.length_reverse]; exact Nat.le_refl _), List.length_reverse, Nat.sub_self]
  rfl
theorem Fe.p {c0 k : Nat} {m : Me} {v : Int32} (h : k = 50 ∨ k = 54) : Fe c0 m (sI m 274 (upd (gI m 274) k v)) := ⟨Fx.I Fx.rf (Or.inl rfl), fun j a b => by rw [gI_s, upd_ne (by omega)], fun _ _ => ⟨rfl, rfl⟩⟩
