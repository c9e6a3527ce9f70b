/-- the relation, out of its parts, when the plan stands as it was -/
theorem RlP.mk2 {M M' : Nat} {P : Pl} {pl dr lv : Nat} {m m2 : Me} (h : RlP M P pl dr lv m) (e1 : m2.1 = m.1) (eR : gR m2 = gR m) (eJ : gJ m2 = gJ m)
    (hp : ∀ x, pl ≤ x → x ≤ pl + 11 → x ≠ pl + 9 → gI m2 x = gI m x) (h18 : gI m2 274 18 = gI m 274 18) (hd : ∀ x, 284 ≤ x → x ≤ 312 → gI m2 x = gI m x)
    (h7 : RoOk P M' (gI m2 315)) (h8 : CR P (gw m2 15) (gI m2 315)) (h9 : TpR m2) (hA : gI m2 3 7 = gI m2 274 17) (hC : HsR P M' m2) (hD : HuR P m2) (hE : SlR P M' m2) (h320 : gI m2 320 = gI m 320) (h54 : gI m2 274 54 = gI m 274 54) : RlP M' P pl dr lv m2 :=
  ⟨e1.trans h.1, by rw [e1, eR]; exact h.cx, by rw [e1, eR]; exact h.wf, h.pc.keep hp, h.ok, h.md.keep h18 (fun x a b => hd x a (by omega)), h7, h8, h9, hA, h.kw.keep (by rw [eJ]) (by rw [eJ]), hC, hD, hE, h.th.of h320 h54 (hd 312 (by decide) (by decide))⟩
/-- frames of both: what neither has written -/
theorem two_at {A B : Nat → Prop} {m m1 m2 : Me} (c : Ch A m m1) (k : Ch B m1 m2) {x : Nat} (a : ¬ A x) (b : ¬ B x) : gI m2 x = gI m x := (k.at b).trans (c.at a)
theorem gw_two {A B : Nat → Prop} {m m1 m2 : Me} (c : Ch A m m1) (k : Ch B m1 m2) {g : Nat} (h : ∀ x, g ≤ x → x ≤ g + 5 → ¬ A x ∧ ¬ B x) : gw m2 g = gw m g := by
  rw [gw_keep k (fun x a b => (h x a b).2), gw_keep c (fun x a b => (h x a b).1)]
/-- what stands when both have written here and there, in neither the plan nor the rows -/
theorem RlP.wr {M M' : Nat} {P : Pl} {pl dr lv : Nat} {m m1 m2 : Me} {A B : Nat → Prop} (h : RlP M P pl dr lv m) (q : M ≤ M') (c : Ch A m m1) (k : Ch B m1 m2) (hA : ∀ x, A x → x = 1 ∨ x = 2 ∨ (211 ≤ x ∧ x ≤ 214)) (hB : ∀ x, B x → x = 274 ∨ x = 275 ∨ (322 ≤ x ∧ x ≤ 324)) (h274 : ∀ q, q ≠ 2 → q ≠ 68 → gI m2 274 q = gI m 274 q) (h9 : TpR m2) (hD : HuR P m2) : RlP M' P pl dr lv m2 := by
  have hpd := h.cx.pd
  have ee : ∀ x, ¬ (x = 1 ∨ x = 2 ∨ (211 ≤ x ∧ x ≤ 214)) → ¬ (x = 274 ∨ x = 275 ∨ (322 ≤ x ∧ x ≤ 324)) → gI m2 x = gI m x := fun x a b => two_at c k (fun z => a (hA x z)) (fun z => b (hB x z))
  refine h.mk2 (k.1.trans c.1) (k.2.2.1.trans c.2.2.1) (k.2.1.trans c.2.1) (fun x a b _ => ee x (by omega) (by omega)) (h274 18 (by decide) (by decide)) (fun x a b => ee x (by omega) (by omega)) ?_ ?_ h9 ?_ (h.hs.keep q (ee 27 (by omega) (by omega)) (h274 63 (by decide) (by decide)) (fun x a b => ee x (by omega) (by omega)) (ee 318 (by omega) (by omega))) hD (h.sl.keep q (ee 210 (by omega) (by omega)) (ee 326 (by omega) (by omega)) (fun x a b => ee x (by omega) (by omega)) (ee 327 (by omega) (by omega))) (ee 320 (by omega) (by omega)) (h274 54 (by decide) (by decide))
  · rw [ee 315 (by omega) (by omega)]; exact h.2.2.2.2.2.2.1.le q
  · rw [ee 315 (by omega) (by omega), gw_two c k (fun x a b => ⟨fun z => by have := hA x z; omega, fun z => by have := hB x z; omega⟩)]; exact h.2.2.2.2.2.2.2.1
  · rw [ee 3 (by omega) (by omega), h274 17 (by decide) (by decide)]; exact h.pla
theorem Ch.wf12 {A : Nat → Prop} {m m' : Me} (c : Ch A m m') (h : Wf12 m.1 (gR m)) : Wf12 m'.1 (gR m') := CX12 c h
theorem Ch.ofI {m : Me} {a : Nat} {r : Nat → Int32} : Ch (fun y => y = a) m (sI m a r) := Ch.I rfl
theorem Ch.mdl {A : Nat → Prop} {m m' : Me} {P : Pl} {lv : Nat} (c : Ch A m m') (h : ∀ x, A x → x < 274) (k : MdC m P lv) : MdC m' P lv := k.keep (by rw [c.at (x := 274) (fun z => by have := h _ z; omega)]) (fun x a _ => c.at (fun z => by have := h _ z; omega))
theorem pr_feed {M : Nat} {m : Me} (h : Rl M m) (hM : M < 2 ^ 18) {a b c d e : Int32} : Pair mX11_feed mX12_feed [.int a, .int b, .int c, .int d, .int e] M m := by
  obtain ⟨P, pl, dr, lv, h⟩ := h
  obtain ⟨n, hn, t1, t2, t3⟩ := h.tp
  by_cases hf : n + 20 ≤ 2000
  · refine (ev_feed h.cx hf t1).mono ?_
    rintro o m1 ⟨rfl, k, k1, k2⟩
    refine ⟨_, rfl, (ex_feed (k.wf12 h.wf) hf (by rw [k.at (by omega)]; exact t2)).mono ?_⟩
    rintro o2 m2 ⟨rfl, l, l1, l2, l3⟩
    refine ⟨rfl, P, pl, dr, lv, h.wr (by omega) k l (fun x hx => by omega) (fun x hx => by omega) (fun q z _ => by rw [l1 q z, k.at (by omega)]) ⟨n + 20, hf, by rw [l.at (by omega)]; exact k1, l2, ?_⟩ ?_⟩
    · rw [l.at (x := 2) (by omega), k2, l3, k.at (x := 275) (by omega)]
      exact pw20_c t3
    · exact h.hu.keep (by rw [two_at k l (by omega) (by omega)]) (by rw [l1 68 (by decide), k.at (by omega)]) (fun x a b => two_at k l (by omega) (by omega)) (fun x a b => two_at k l (by omega) (by omega))
  · refine (ev_feed0 h.cx hn (by omega) t1).mono ?_
    rintro o m1 ⟨rfl, e1⟩
    subst e1
    refine ⟨_, rfl, (ex_feed0 h.wf hn (by omega) t2).mono ?_⟩
    rintro o2 m2 ⟨rfl, e2⟩
    subst e2
    exact ⟨rfl, P, pl, dr, lv, h.le (by omega)⟩
theorem pr_back {M : Nat} {m : Me} (h : Rl M m) (hM : M < 2 ^ 18) {v : Int32} : Pair mX11_back mX12_back [.int v] M m := by
  obtain ⟨P, pl, dr, lv, h⟩ := h
  obtain ⟨n, hn, t1, t2, t3⟩ := h.tp
  rcases bk_c v hn with hv | ⟨j, hj, rfl⟩
  · refine (ev_back0 h.cx hn hv t1).mono ?_
    rintro o m1 ⟨rfl, e1⟩
    subst e1
    refine ⟨_, rfl, (ex_back0 h.wf hn hv t2).mono ?_⟩
    rintro o2 m2 ⟨rfl, e2⟩
    subst e2
    exact ⟨rfl, P, pl, dr, lv, h.le (by omega)⟩
  · refine (ev_back h.cx hn hj t1).mono ?_
    rintro o m1 ⟨rfl, e1⟩
    have k : Ch (fun y => y = 1) m m1 := by rw [e1]; exact Ch.ofI
    refine ⟨_, rfl, (ex_back (k.wf12 h.wf) hn hj (by rw [k.at (by omega)]; exact t2)).mono ?_⟩
    rintro o2 m2 ⟨rfl, e2⟩
    have l : Ch (fun y => y = 274) m1 m2 := by rw [e2]; exact Ch.ofI
    have l1 : ∀ q, q ≠ 2 → gI m2 274 q = gI m 274 q := fun q z => by rw [e2, gI_s, upd_ne z, k.at (by omega)]
    refine ⟨rfl, P, pl, dr, lv, h.wr (by omega) k l (fun x hx => by omega) (fun x hx => by omega) (fun q z _ => l1 q z) ⟨n - j, by omega, ?_, ?_, ?_⟩ ?_⟩
    · rw [l.at (by omega), e1, gI_s, upd_eq]
    · rw [e2, gI_s, upd_eq]
    · intro q hq
      rw [two_at k l (by omega) (by omega), two_at k l (by omega) (by omega)]
      exact t3 q (by omega)
    · exact h.hu.keep (by rw [two_at k l (by omega) (by omega)]) (l1 68 (by decide)) (fun x a b => two_at k l (by omega) (by omega)) (fun x a b => two_at k l (by omega) (by omega))
theorem pr_place {M : Nat} {m : Me} (h : Rl M m) (hM : M < 2 ^ 18) : Pair mX11_place mX12_place [] M m := by
  obtain ⟨P, pl, dr, lv, h⟩ := h
  refine (ev_place h.cx).mono ?_
  rintro o m1 ⟨rfl, e1⟩
  subst e1
  refine ⟨_, rfl, (ex_place h.wf).mono ?_⟩
  rintro o2 m2 ⟨rfl, e2⟩
  subst e2
  exact ⟨by rw [h.pla], P, pl, dr, lv, h.le (by omega)⟩
theorem pr_forget {M : Nat} {m : Me} (h : Rl M m) (hM : M < 2 ^ 18) : Pair mX11_forget mX12_forget [] M m := by
  obtain ⟨P, pl, dr, lv, h⟩ := h
  obtain ⟨t, ht, a1, a2, a3⟩ := h.hu
  refine (ev_forget h.cx).mono ?_
  rintro o m1 ⟨rfl, e1⟩
  have k : Ch (fun y => y = 211) m m1 := by rw [e1]; exact Ch.ofI
  refine ⟨_, rfl, (ex_forget (k.wf12 h.wf)).mono ?_⟩
  rintro o2 m2 ⟨rfl, e2⟩
  have l : Ch (fun y => y = 274) m1 m2 := by rw [e2]; exact Ch.ofI
  have l1 : ∀ q, q ≠ 68 → gI m2 274 q = gI m 274 q := fun q z => by rw [e2, gI_s, upd_ne z, k.at (by omega)]
  refine ⟨by rw [k.at (by omega), a1, a2], P, pl, dr, lv, h.wr (by omega) k l (fun x hx => by omega) (fun x hx => by omega) (fun q _ z => l1 q z) (h.tp.keep (two_at k l (by omega) (by omega)) (l1 2 (by decide)) (two_at k l (by omega) (by omega)) (two_at k l (by omega) (by omega))) ⟨0, by omega, ?_, ?_, fun i hi => absurd hi (Nat.not_lt_zero i)⟩⟩
  · rw [l.at (by omega), e1, gI_s, upd_eq]
  · rw [e2, gI_s, upd_eq]
theorem pr_tell {M : Nat} {m : Me} (h : Rl M m) (hM : M < 2 ^ 18) {x y n th : Int32} : Pair mX11_tell mX12_tell [.int x, .int y, .int n, .int th] M m := by
  obtain ⟨P, pl, dr, lv, h⟩ := h
  have hw8 := h.ok.1
  have hr5 := h.ok.2.1
  obtain ⟨t, ht, a1, a2, a3⟩ := h.hu
  by_cases e20 : t = 20
  · subst e20
    refine (ev_tell0 h.cx h.pc h.ok a1).mono ?_
    rintro o m1 ⟨rfl, e1⟩
    subst e1
    refine ⟨_, rfl, (ex_tell0 h.wf a2).mono ?_⟩
    rintro o2 m2 ⟨rfl, e2⟩
    subst e2
    exact ⟨rfl, P, pl, dr, lv, h.le (by omega)⟩
  · refine (ev_tell h.cx h.pc h.ok (show t < 20 by omega) a1).mono ?_
    rintro o m1 (⟨b0, a, b, j, f, ha, hb, hj, hf, rfl, rfl, rfl, rfl, rfl, k, k1, k2, k3, k4⟩ | ⟨b0, rfl, e1⟩)
    · refine ⟨_, rfl, (ex_tell (k.wf12 h.wf) (k.mdl (fun x hx => by omega) h.md) h.ok (show t < 20 by omega) (by rw [k.at (by omega)]; exact a2)).mono ?_⟩
      rintro o2 m2 (⟨d0, a', b', j', f', ha', hb', hj', hf', u1, u2, u3, u4, rfl, l, l0, l1, l2, l3, l4⟩ | ⟨d0, -, -⟩)
      · have q1 := (nI_eq (show a < 2 ^ 31 by omega) (show a' < 2 ^ 31 by omega)).mp u1
        have q2 := (nI_eq (show b < 2 ^ 31 by omega) (show b' < 2 ^ 31 by omega)).mp u2
        have q3 := (nI_eq (show j < 2 ^ 31 by omega) (show j' < 2 ^ 31 by omega)).mp u3
        have q4 := (nI_eq (show f < 2 ^ 31 by omega) (show f' < 2 ^ 31 by omega)).mp u4
        subst q1; subst q2; subst q3; subst q4
        have l274 : ∀ q, q ≠ 68 → gI m2 274 q = gI m 274 q := fun q z => by rw [l0 q z, k.at (by omega)]
        refine ⟨rfl, P, pl, dr, lv, h.wr (by omega) k l (fun x hx => by omega) (fun x hx => by omega) (fun q _ z => l274 q z) (h.tp.keep (two_at k l (by omega) (by omega)) (l274 2 (by decide)) (two_at k l (by omega) (by omega)) (two_at k l (by omega) (by omega))) ⟨t + 1, by omega, ?_, l1, fun i hi => ?_⟩⟩
        · rw [l.at (by omega)]; exact k1
        · rw [l.at (x := 212) (by omega), l.at (x := 213) (by omega), l.at (x := 214) (by omega), k2, k3, k4, l2, l3, l4, k.at (x := 322) (by omega), k.at (x := 323) (by omega), k.at (x := 324) (by omega)]
          by_cases e : i = t
          · rw [e, upd_eq, upd_eq, upd_eq, upd_eq, upd_eq, upd_eq]
            exact ⟨8 * b + a, j, f, by omega, ld_ab h.ok ha hb, hj, hf, rfl, rfl, rfl, rfl, rfl, rfl⟩
          · rw [upd_ne e, upd_ne e, upd_ne e, upd_ne e, upd_ne e, upd_ne e]
            exact a3 i (by omega)
      · exact absurd b0 d0
    · subst e1
      refine ⟨_, rfl, (ex_tell h.wf h.md h.ok (show t < 20 by omega) a2).mono ?_⟩
      rintro o2 m2 (⟨d0, -⟩ | ⟨d0, rfl, e2⟩)
      · exact absurd d0 b0
      · subst e2
        exact ⟨rfl, P, pl, dr, lv, h.le (by omega)⟩
