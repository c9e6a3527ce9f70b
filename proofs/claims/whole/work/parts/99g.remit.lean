/-- the reference's code of a side, as it is made from c0 on, and what waits -/
def RC (m : Me) (c0 : Nat) (W : List Nat) (D : List (Nat × Nat)) : Prop := gI m 274 50 = nI (c0 + D.length) ∧ (∀ i c, D[i]? = some c → gI m 310 (c0 + i) = nI c.1 ∧ gI m 311 (c0 + i) = nI c.2) ∧ gI m 274 54 = nI W.length ∧ ∀ i k, W.reverse[i]? = some k → gI m 312 i = nI (rk k)
def Fe (c0 : Nat) (m m' : Me) : Prop := Fx (fun x => x = 274 ∨ x = 310 ∨ x = 311 ∨ x = 312) (fun _ => False) m m' ∧ (∀ k, k ≠ 50 → k ≠ 54 → gI m' 274 k = gI m 274 k) ∧ ∀ j, (j < c0 ∨ c0 + 420 ≤ j) → gI m' 310 j = gI m 310 j ∧ gI m' 311 j = gI m 311 j
theorem Fe.rf {c0 : Nat} {m : Me} : Fe c0 m m := ⟨Fx.rf, fun _ _ _ => rfl, fun _ _ => ⟨rfl, rfl⟩⟩
theorem Fe.tr {c0 : Nat} {m m' m'' : Me} (h : Fe c0 m m') (k : Fe c0 m' m'') : Fe c0 m m'' := ⟨h.1.tr k.1, fun x a b => (k.2.1 x a b).trans (h.2.1 x a b), fun j hj => ⟨(k.2.2 j hj).1.trans (h.2.2 j hj).1, (k.2.2 j hj).2.trans (h.2.2 j hj).2⟩⟩
set_option maxRecDepth 100000 in
set_option maxHeartbeats 4000000 in
theorem ex_emit {m : Me} {c0 : Nat} {W : List Nat} {D : List (Nat × Nat)} (hx : Wf12 m.1 (gR m)) (h : RC m c0 W D) {s v : Nat} (hd : D.length < 420) (hc : c0 ≤ 420) : Ev mX12_emit [.ref 274, .int (nI s), .int (nI v)] m (fun o m' => o = none ∧ RC m' c0 W (D ++ [(s, v)]) ∧ Fe c0 m m') := by
  refine ⟨plmX12_emit, nle rfl, ?_⟩
  refine go_aload_n (q := 0) (i := 0) rfl rfl dX12_emit_0 ?_
  refine go_getR lf12_125 rfl hx.o hx.r51 dX12_emit_1 ?_
  refine go_aload_n (q := 0) (i := 0) rfl rfl dX12_emit_4 ?_
  refine go_getI lf12_272 rfl hx.o dX12_emit_5 ?_
  rw [h.1]
  refine go_iload_n (q := 1) (i := 1) rfl rfl dX12_emit_8 ?_
  refine go_iast (j := (c0 + D.length)) hx.i51 (by omega) (by first | decide | omega) rfl dX12_emit_9 ?_
  refine go_aload_n (q := 0) (i := 0) rfl rfl dX12_emit_10 ?_
  refine go_getR lf12_128 rfl hx.o hx.r52 dX12_emit_11 ?_
  refine go_aload_n (q := 0) (i := 0) rfl rfl dX12_emit_14 ?_
  refine go_getI lf12_272 rfl hx.o dX12_emit_15 ?_
  rw [gI_n (by decide), h.1]
  refine go_iload_n (q := 2) (i := 2) rfl rfl dX12_emit_18 ?_
  refine go_iast (j := (c0 + D.length)) hx.i52 (by omega) (by first | decide | omega) rfl dX12_emit_19 ?_
  refine go_aload_n (q := 0) (i := 0) rfl rfl dX12_emit_20 ?_
  refine go_dup rfl dX12_emit_21 ?_
  refine go_getI lf12_272 rfl hx.o dX12_emit_22 ?_
  rw [gI_n (by decide), gI_n (by decide), h.1]
  refine go_iconst (v := nI 1) (by decide) dX12_emit_25 ?_
  refine gn_add dX12_emit_26 ?_
  refine go_putI lf12_272 rfl (Or.inl rfl) hx.o dX12_emit_27 ?_
  refine go_vret rfl ⟨Nat.zero_le _, Nat.zero_le _⟩ dX12_emit_30 ?_
  refine ⟨rfl, ⟨?_, fun i c hi => ?_, ?_, fun i k hi => ?_⟩, Fx.I (Fx.I (Fx.I Fx.rf (Or.inr (Or.inl rfl))) (Or.inr (Or.inr (Or.inl rfl)))) (Or.inl rfl), fun k h5 _ => ?_, fun j hj => ⟨?_, ?_⟩⟩
  · rw [gI_s, upd_same, List.length_append]; rfl
  · rw [gI_n (by decide), gI_n (by decide), gI_s, gI_n (by decide), gI_s]
    by_cases e : i < D.length
    · rw [upd_ne (by omega), upd_ne (by omega)]
      rw [List.getElem?_append_left e] at hi
      exact h.2.1 i c hi
    · have hlt := (List.getElem?_eq_some_iff.mp hi).1
      rw [List.length_append] at hlt
      have e2 : i = D.length := by simp at hlt; omega
      subst e2
      rw [List.getElem?_append_right (Nat.le_refl _), Nat.sub_self] at hi
      rw [upd_same, upd_same]
      cases hi
      exact ⟨rfl, rfl⟩
  · rw [gI_s, upd_ne (by decide), gI_n (by decide), gI_n (by decide)]; exact h.2.2.1
  · rw [gI_n (by decide), gI_n (by decide), gI_n (by decide)]; exact h.2.2.2 i k hi
  · rw [gI_s, upd_ne h5, gI_n (by decide), gI_n (by decide)]
  · rw [gI_n (by decide), gI_n (by decide), gI_s, upd_ne (by omega)]
  · rw [gI_n (by decide), gI_s, upd_ne (by omega), gI_n (by decide)]
