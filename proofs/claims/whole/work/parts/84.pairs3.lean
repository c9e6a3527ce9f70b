theorem two_gw {A : Nat → Prop} {m m2 : Me} (e : ∀ x, ¬ A x → gI m2 x = gI m x) {g : Nat} (h : ∀ x, g ≤ x → x ≤ g + 5 → ¬ A x) : gw m2 g = gw m g := by
  unfold gw
  rw [e _ (h g (by omega) (by omega)), e _ (h (g + 1) (by omega) (by omega)), e _ (h (g + 2) (by omega) (by omega)), e _ (h (g + 3) (by omega) (by omega)), e _ (h (g + 4) (by omega) (by omega)), e _ (h (g + 5) (by omega) (by omega))]
/-- the row goes back to one that was kept; how much of the past stays -/
theorem RlP.back {M : Nat} {P : Pl} {pl dr lv : Nat} {m m1 m2 : Me} {r : Nat → Int32} (h : RlP M P pl dr lv m) (k : Ch (fun y => (15 ≤ y ∧ y ≤ 20) ∨ y = 27) m m1) (l : Ch (fun y => y = 274 ∨ y = 315) m1 m2) (l0 : ∀ q, q ≠ 63 → gI m2 274 q = gI m1 274 q) (hr : ∀ q, q < 105 → gI m2 315 q = r q) (hc : CR P (gw m1 15) r) (ho : RoOk P M r) (hC : HsR P M m2) : RlP (M + 48) P pl dr lv m2 := by
  have hpd := h.cx.pd
  have ee : ∀ x, ¬ ((15 ≤ x ∧ x ≤ 20) ∨ x = 27 ∨ x = 274 ∨ x = 315) → gI m2 x = gI m x := fun x a => two_at k l (by omega) (by omega)
  have l1 : ∀ q, q ≠ 63 → gI m2 274 q = gI m 274 q := fun q z => by rw [l0 q z, k.at (by omega)]
  refine RlP.le (h.mk2 (l.1.trans k.1) (l.2.2.1.trans k.2.2.1) (l.2.1.trans k.2.1) (fun x a b _ => ee x (by omega)) (l1 18 (by decide)) (fun x a b => ee x (by omega)) (ho.to hr) ?_ (h.tp.keep (ee 1 (by omega)) (l1 2 (by decide)) (ee 2 (by omega)) (ee 275 (by omega))) ?_ hC (h.hu.keep (by rw [ee 211 (by omega)]) (l1 68 (by decide)) (fun x a b => ee x (by omega)) (fun x a b => ee x (by omega))) (h.sl.keep (Nat.le_refl _) (ee 210 (by omega)) (ee 326 (by omega)) (fun x a b => ee x (by omega)) (ee 327 (by omega))) (ee 320 (by omega)) (l1 54 (by decide))) (by omega)
  · rw [gw_keep l (fun x a b => by omega)]; exact hc.to hr
  · rw [ee 3 (by omega), l1 17 (by decide)]; exact h.pla
theorem pr_undo {M : Nat} {m : Me} (h : Rl M m) (hM : M < 2 ^ 18) : Pair mX11_undo mX12_undo [] M m := by
  obtain ⟨P, pl, dr, lv, h⟩ := h
  obtain ⟨s, x, hs, hx, a1, a2, a3, a4⟩ := h.hs
  by_cases e0 : s = 0
  · subst e0
    refine (ev_undo0 h.cx hx a1 a2).mono ?_
    rintro o m1 ⟨rfl, e1⟩
    subst e1
    refine ⟨_, rfl, (ex_undo0 h.wf a3).mono ?_⟩
    rintro o2 m2 ⟨rfl, e2⟩
    subst e2
    exact ⟨rfl, P, pl, dr, lv, h.le (by omega)⟩
  · refine (ev_undo h.cx hx (show 0 < s by omega) hs a1 a2).mono ?_
    rintro o m1 ⟨rfl, k, k1, k2, k3⟩
    refine ⟨_, rfl, (ex_undo (k.wf12 h.wf) (show 0 < s by omega) hs (by rw [k.at (by omega)]; exact a3)).mono ?_⟩
    rintro o2 m2 ⟨rfl, l, l0, l1, l2⟩
    obtain ⟨c1, c2⟩ := a4 (s - 1) (by omega)
    have e6 : hrw m1 = hrw m := by funext j q; unfold hrw; rw [k.at (by omega)]
    refine ⟨rfl, P, pl, dr, lv, h.back k l l0 (r := hrw m (s - 1)) (fun q hq => by rw [l2 q hq, e6]) ?_ c2 ⟨s - 1, (x + 29) % 30, by omega, Nat.mod_lt _ (by decide), ?_, ?_, l1, fun j hj => ?_⟩⟩
    · rw [k3, show (x + 29) % 30 = (x + 30 - s + (s - 1)) % 30 by omega]
      exact c1
    · rw [l.at (by omega)]; exact k1
    · rw [l.at (by omega)]; exact k2
    · have ej : hrw m2 j = hrw m j := by funext q; unfold hrw; rw [two_at k l (by omega) (by omega)]
      rw [ej, show ((x + 29) % 30 + 30 - (s - 1) + j) % 30 = (x + 30 - s + j) % 30 by omega]
      have hz : (x + 30 - s + j) % 30 < 30 := Nat.mod_lt _ (by decide)
      rw [gw_two k l (g := 29 + 6 * ((x + 30 - s + j) % 30)) (fun y a b => ⟨by omega, by omega⟩)]
      exact a4 j (by omega)
theorem in02 (v : Int32) : inS v (nI 0) (nI 2) = nI 0 ∨ ∃ j, j < 3 ∧ v = nI j := by
  rcases in_c v (N := 2) (by decide) with h | ⟨j, hj, e, -⟩
  · exact Or.inl h
  · exact Or.inr ⟨j, by omega, e⟩
theorem pr_restore {M : Nat} {m : Me} (h : Rl M m) (hM : M < 2 ^ 18) {v : Int32} : Pair mX11_restore mX12_restore [.int v] M m := by
  obtain ⟨P, pl, dr, lv, h⟩ := h
  rcases in02 v with hv | ⟨j, hj, rfl⟩
  · refine (ev_restoreB h.cx hv).mono ?_
    rintro o m1 ⟨rfl, e1⟩
    subst e1
    refine ⟨_, rfl, (ex_restoreB h.wf hv).mono ?_⟩
    rintro o2 m2 ⟨rfl, e2⟩
    subst e2
    exact ⟨rfl, P, pl, dr, lv, h.le (by omega)⟩
  · rcases h.sl j hj with ⟨a1, a2⟩ | ⟨a1, a2, a3, a4⟩
    · refine (ev_restore0 h.cx hj a1).mono ?_
      rintro o m1 ⟨rfl, e1⟩
      subst e1
      refine ⟨_, rfl, (ex_restore0 h.wf hj a2).mono ?_⟩
      rintro o2 m2 ⟨rfl, e2⟩
      subst e2
      exact ⟨rfl, P, pl, dr, lv, h.le (by omega)⟩
    · refine (ev_restore h.cx hj a1).mono ?_
      rintro o m1 ⟨rfl, k, k1, k2, k3⟩
      refine ⟨_, rfl, (ex_restore (k.wf12 h.wf) hj (by rw [k.at (by omega)]; exact a2)).mono ?_⟩
      rintro o2 m2 ⟨rfl, l, l0, l1, l2⟩
      obtain ⟨s, x, hs, hx, b1, -⟩ := h.hs
      refine ⟨rfl, P, pl, dr, lv, h.back k l l0 (r := srw m j) (fun q hq => by rw [l2 q hq]; unfold srw; rw [k.at (by omega)]) (by rw [k3]; exact a3) a4 ⟨0, x, by omega, hx, ?_, ?_, l1, fun j hj => absurd hj (Nat.not_lt_zero j)⟩⟩
      · rw [l.at (by omega), k1]; exact b1
      · rw [l.at (by omega)]; exact k2
theorem pr_hold {M : Nat} {m : Me} (h : Rl M m) (hM : M < 2 ^ 18) {v : Int32} : Pair mX11_hold mX12_hold [.int v] M m := by
  obtain ⟨P, pl, dr, lv, h⟩ := h
  rcases in02 v with hv | ⟨j, hj, rfl⟩
  · refine (ev_hold0 h.cx hv).mono ?_
    rintro o m1 ⟨rfl, e1⟩
    subst e1
    refine ⟨_, rfl, (ex_hold0 h.wf hv).mono ?_⟩
    rintro o2 m2 ⟨rfl, e2⟩
    subst e2
    exact ⟨rfl, P, pl, dr, lv, h.le (by omega)⟩
  · refine (ev_hold h.cx hj).mono ?_
    rintro o m1 ⟨rfl, k, k1, k2⟩
    refine ⟨_, rfl, (ex_hold (k.wf12 h.wf) hj).mono ?_⟩
    rintro o2 m2 ⟨rfl, l, l1, l2, l3⟩
    have hpd := h.cx.pd
    have ee : ∀ x, ¬ ((256 ≤ x ∧ x < 274) ∨ x = 210 ∨ x = 326 ∨ x = 327) → gI m2 x = gI m x := fun x a => two_at k l (by omega) (by omega)
    refine ⟨rfl, P, pl, dr, lv, RlP.le (h.mk2 (l.1.trans k.1) (l.2.2.1.trans k.2.2.1) (l.2.1.trans k.2.1) (fun x a b _ => ee x (by omega)) (by rw [ee 274 (by omega)]) (fun x a b => ee x (by omega)) (by rw [ee 315 (by omega)]; exact h.2.2.2.2.2.2.1) (by rw [ee 315 (by omega), gw_two k l (fun x a b => ⟨by omega, by omega⟩)]; exact h.2.2.2.2.2.2.2.1) (h.tp.keep (ee 1 (by omega)) (by rw [ee 274 (by omega)]) (ee 2 (by omega)) (ee 275 (by omega))) (by rw [ee 3 (by omega), ee 274 (by omega)]; exact h.pla) (h.hs.keep (Nat.le_refl _) (ee 27 (by omega)) (by rw [ee 274 (by omega)]) (fun x a b => ee x (by omega)) (ee 318 (by omega))) (h.hu.keep (by rw [ee 211 (by omega)]) (by rw [ee 274 (by omega)]) (fun x a b => ee x (by omega)) (fun x a b => ee x (by omega))) (fun i hi => ?_) (ee 320 (by omega)) (by rw [ee 274 (by omega)])) (by omega)⟩
    have e210 : gI m2 210 = upd (gI m 210) j (nI 1) := by rw [l.at (by omega), k1]
    have e326 : gI m2 326 = upd (gI m 326) j (nI 1) := by rw [l1, k.at (by omega)]
    rw [e210, e326]
    by_cases e : i = j
    · subst e
      rw [upd_eq, upd_eq]
      refine Or.inr ⟨rfl, rfl, ?_, ?_⟩
      · rw [gw_keep l (fun x a b => by omega), k2]
        exact (h.2.2.2.2.2.2.2.1).to (fun q hq => by rw [l2 q hq, k.at (by omega)])
      · exact (h.2.2.2.2.2.2.1).to (fun q hq => by rw [l2 q hq, k.at (by omega)])
    · rw [upd_ne e, upd_ne e, gw_two k l (g := 256 + 6 * i) (fun x a b => ⟨by omega, by omega⟩)]
      have es : ∀ q, q < 105 → srw m2 i q = srw m i q := fun q hq => by
        rw [l3 i q hi hq e]
        unfold srw
        rw [k.at (by omega)]
      rcases h.sl i hi with b1 | ⟨b1, b2, b3, b4⟩
      · exact Or.inl b1
      · exact Or.inr ⟨b1, b2, b3.to es, b4.to es⟩
