/-! EACH CALL, on both sides: the same answer, and the relation stands -/
def Pair (C R : MD) (as : List Value) (M : Nat) (m : Me) : Prop := Ev C (.ref 0 :: as) m (fun o m1 => ∃ v, o = some (.int v) ∧ Ev R (.ref 274 :: as) m1 (fun o2 m2 => o2 = some (.int v) ∧ Rl (M + 48) m2))
abbrev R0 (m : Me) : Nat → Int32 := cp 105 (gI m 315) (gI m 316)
theorem R0_e (m : Me) : ∀ k, k < 105 → R0 m k = gI m 315 k := fun k hk => cp_in hk
theorem RlP.cx {M : Nat} {P : Pl} {pl dr lv : Nat} {m : Me} (h : RlP M P pl dr lv m) : CX m.1 (gR m) pl dr := h.2.1
theorem RlP.wf {M : Nat} {P : Pl} {pl dr lv : Nat} {m : Me} (h : RlP M P pl dr lv m) : Wf12 m.1 (gR m) := h.2.2.1
theorem RlP.pc {M : Nat} {P : Pl} {pl dr lv : Nat} {m : Me} (h : RlP M P pl dr lv m) : PlC m pl P := h.2.2.2.1
theorem RlP.ok {M : Nat} {P : Pl} {pl dr lv : Nat} {m : Me} (h : RlP M P pl dr lv m) : PlOk P := h.2.2.2.2.1
theorem RlP.md {M : Nat} {P : Pl} {pl dr lv : Nat} {m : Me} (h : RlP M P pl dr lv m) : MdC m P lv := h.2.2.2.2.2.1
theorem RlP.ro {M : Nat} {P : Pl} {pl dr lv : Nat} {m : Me} (h : RlP M P pl dr lv m) : RoOk P M (R0 m) := h.2.2.2.2.2.2.1.to (R0_e m)
theorem RlP.cr {M : Nat} {P : Pl} {pl dr lv : Nat} {m : Me} (h : RlP M P pl dr lv m) : CR P (gw m 15) (R0 m) := h.2.2.2.2.2.2.2.1.to (R0_e m)
theorem RlP.tp {M : Nat} {P : Pl} {pl dr lv : Nat} {m : Me} (h : RlP M P pl dr lv m) : TpR m := h.2.2.2.2.2.2.2.2.1
theorem RlP.pla {M : Nat} {P : Pl} {pl dr lv : Nat} {m : Me} (h : RlP M P pl dr lv m) : gI m 3 7 = gI m 274 17 := h.2.2.2.2.2.2.2.2.2.1
theorem RlP.kw {M : Nat} {P : Pl} {pl dr lv : Nat} {m : Me} (h : RlP M P pl dr lv m) : KwR m := h.2.2.2.2.2.2.2.2.2.2.1
theorem RlP.hs {M : Nat} {P : Pl} {pl dr lv : Nat} {m : Me} (h : RlP M P pl dr lv m) : HsR P M m := h.2.2.2.2.2.2.2.2.2.2.2.1
theorem RlP.hu {M : Nat} {P : Pl} {pl dr lv : Nat} {m : Me} (h : RlP M P pl dr lv m) : HuR P m := h.2.2.2.2.2.2.2.2.2.2.2.2.1
theorem RlP.sl {M : Nat} {P : Pl} {pl dr lv : Nat} {m : Me} (h : RlP M P pl dr lv m) : SlR P M m := h.2.2.2.2.2.2.2.2.2.2.2.2.2.1
theorem RlP.th {M : Nat} {P : Pl} {pl dr lv : Nat} {m : Me} (h : RlP M P pl dr lv m) : ThR m := h.2.2.2.2.2.2.2.2.2.2.2.2.2.2
/-- what the class writes when it does something touches nothing of the reference -/
theorem ref_keep {P : Pl} {lv : Nat} {m m1 : Me} (e1 : m1.1 = m.1) (e2 : gR m1 = gR m) (e : ∀ x, 274 ≤ x → gI m1 x = gI m x) (hx : Wf12 m.1 (gR m)) (hm : MdC m P lv) : Wf12 m1.1 (gR m1) ∧ MdC m1 P lv ∧ R0 m1 = R0 m :=
  ⟨by rw [e1, e2]; exact hx, hm.keep (by rw [e 274 (by omega)]) (fun x a _ => e x (by omega)), by unfold R0; rw [e 315 (by omega), e 316 (by omega)]⟩
theorem ClK.ref {M : Nat} {P : Pl} {pl dr lv : Nat} {m m1 : Me} (c : ClK pl m m1) (h : RlP M P pl dr lv m) : Wf12 m1.1 (gR m1) ∧ MdC m1 P lv ∧ R0 m1 = R0 m := by
  have hpd := h.cx.pd
  exact ref_keep c.1 c.2.1 (fun x hx => c.2.2.1 x (by unfold LkA; omega)) h.wf h.md
theorem ClK.at {pl dr n : Nat} {R : Nat → Nat → Option Nat} {m m1 : Me} (c : ClK pl m m1) (hX : CX n R pl dr) {x : Nat} (hx : 274 ≤ x) : gI m1 x = gI m x := by
  have hpd := hX.pd
  exact c.2.2.1 x (by unfold LkA; omega)
theorem HuR.td {P : Pl} {m : Me} (h : HuR P m) : ∃ t tc th tf, gI m 211 3 = nI t ∧ gI m 274 68 = nI t ∧ TdO P t tc th tf ∧ Td m 212 213 214 t tc th tf ∧ Td m 322 323 324 t tc th tf := by
  obtain ⟨t, h1, h2, h3, h4⟩ := h
  have key : ∀ i, i < t → ((gI m 212 i).toNatClampNeg < 40 ∧ ld P (gI m 212 i).toNatClampNeg ∧ (gI m 213 i).toNatClampNeg ≤ 24 ∧ (gI m 214 i).toNatClampNeg ≤ 99) ∧ (gI m 212 i = nI (gI m 212 i).toNatClampNeg ∧ gI m 213 i = nI (gI m 213 i).toNatClampNeg ∧ gI m 214 i = nI (gI m 214 i).toNatClampNeg) ∧ (gI m 322 i = nI (gI m 212 i).toNatClampNeg ∧ gI m 323 i = nI (gI m 213 i).toNatClampNeg ∧ gI m 324 i = nI (gI m 214 i).toNatClampNeg) := fun i hi => by
    obtain ⟨c, u, f, a1, a2, a3, a4, b1, b2, b3, d1, d2, d3⟩ := h4 i hi
    rw [b1, b2, b3, nI_clamp (by omega), nI_clamp (by omega), nI_clamp (by omega)]
    exact ⟨⟨a1, a2, a3, a4⟩, ⟨rfl, rfl, rfl⟩, d1, d2, d3⟩
  exact ⟨t, fun i => (gI m 212 i).toNatClampNeg, fun i => (gI m 213 i).toNatClampNeg, fun i => (gI m 214 i).toNatClampNeg, h2, h3, ⟨h1, fun i hi => (key i hi).1⟩, fun i hi => (key i hi).2.1, fun i hi => (key i hi).2.2⟩
theorem pr_then {M : Nat} {m : Me} (h : Rl M m) (hM : M < 2 ^ 18) {x y n : Int32} : Pair mX11_then mX12_then [.int x, .int y, .int n] M m := by
  obtain ⟨P, pl, dr, lv, h⟩ := h
  refine (ev_then h.cx h.pc h.ok hM h.ro h.cr).mono ?_
  rintro o m1 ⟨rfl, c⟩
  have c1 := ClK.of c
  obtain ⟨hx1, hm1, e0⟩ := c1.ref h
  refine ⟨_, rfl, (ex_then hx1 hm1 h.ok).mono ?_⟩
  rintro o2 m2 ⟨rfl, k⟩
  exact ⟨by rw [show cp 105 (gI m1 315) (gI m1 316) = R0 m from e0], P, pl, dr, lv, (h.look c1 (RfK.of k)).le (by omega)⟩
theorem pr_all {M : Nat} {m : Me} (h : Rl M m) (hM : M < 2 ^ 18) {n w x : Int32} : Pair mX11_all mX12_all [.int n, .int w, .int x] M m := by
  obtain ⟨P, pl, dr, lv, h⟩ := h
  refine (ev_all h.cx h.pc h.ok hM h.ro h.cr).mono ?_
  rintro o m1 ⟨rfl, c⟩
  have c1 := ClK.of c
  obtain ⟨hx1, hm1, e0⟩ := c1.ref h
  refine ⟨_, rfl, (ex_all hx1 hm1 h.ok).mono ?_⟩
  rintro o2 m2 ⟨rfl, k⟩
  exact ⟨by rw [show cp 105 (gI m1 315) (gI m1 316) = R0 m from e0], P, pl, dr, lv, (h.look c1 (RfK.of k)).le (by omega)⟩
theorem pr_thickest {M : Nat} {m : Me} (h : Rl M m) (hM : M < 2 ^ 18) {n w : Int32} : Pair mX11_thickest mX12_thickest [.int n, .int w] M m := by
  obtain ⟨P, pl, dr, lv, h⟩ := h
  refine (ev_thick h.cx h.pc h.ok hM h.ro h.cr).mono ?_
  rintro o m1 ⟨rfl, c⟩
  have c1 := ClK.of c
  obtain ⟨hx1, hm1, e0⟩ := c1.ref h
  refine ⟨_, rfl, (ex_thick hx1 hm1 h.ok).mono ?_⟩
  rintro o2 m2 ⟨rfl, k⟩
  exact ⟨by rw [show cp 105 (gI m1 315) (gI m1 316) = R0 m from e0], P, pl, dr, lv, (h.look c1 (RfK.of k)).le (by omega)⟩
theorem pr_hid {M : Nat} {m : Me} (h : Rl M m) (hM : M < 2 ^ 18) {x y n th : Int32} : Pair mX11_hid mX12_hid [.int x, .int y, .int n, .int th] M m := by
  obtain ⟨P, pl, dr, lv, h⟩ := h
  refine (ev_hid h.cx h.pc h.ok hM h.ro h.cr).mono ?_
  rintro o m1 ⟨rfl, c⟩
  have c1 := ClK.of c
  obtain ⟨hx1, hm1, e0⟩ := c1.ref h
  refine ⟨_, rfl, (ex_hid hx1 hm1 h.ok).mono ?_⟩
  rintro o2 m2 ⟨rfl, k⟩
  exact ⟨by rw [show cp 105 (gI m1 315) (gI m1 316) = R0 m from e0], P, pl, dr, lv, (h.look c1 (RfK.of k)).le (by omega)⟩
theorem pr_lost {M : Nat} {m : Me} (h : Rl M m) (hM : M < 2 ^ 18) {n : Int32} : Pair mX11_lost mX12_lost [.int n] M m := by
  obtain ⟨P, pl, dr, lv, h⟩ := h
  refine (ev_lost h.cx h.pc h.ok hM h.ro h.cr).mono ?_
  rintro o m1 ⟨rfl, c⟩
  have c1 := ClK.of c
  obtain ⟨hx1, hm1, e0⟩ := c1.ref h
  refine ⟨_, rfl, (ex_lost hx1 hm1 h.ok).mono ?_⟩
  rintro o2 m2 ⟨rfl, k⟩
  exact ⟨by rw [show cp 105 (gI m1 315) (gI m1 316) = R0 m from e0], P, pl, dr, lv, (h.look c1 (RfK.of k)).le (by omega)⟩
theorem pr_served {M : Nat} {m : Me} (h : Rl M m) (hM : M < 2 ^ 18) {u n : Int32} : Pair mX11_served mX12_served [.int u, .int n] M m := by
  obtain ⟨P, pl, dr, lv, h⟩ := h
  refine (ev_served h.cx h.pc h.ok hM h.ro h.cr).mono ?_
  rintro o m1 ⟨rfl, c⟩
  have c1 := ClK.of c
  obtain ⟨hx1, hm1, e0⟩ := c1.ref h
  refine ⟨_, rfl, (ex_served hx1 hm1 h.ok).mono ?_⟩
  rintro o2 m2 ⟨rfl, k⟩
  exact ⟨by rw [show cp 105 (gI m1 315) (gI m1 316) = R0 m from e0], P, pl, dr, lv, (h.look c1 (RfK.of k)).le (by omega)⟩
theorem pr_missed {M : Nat} {m : Me} (h : Rl M m) (hM : M < 2 ^ 18) {u n : Int32} : Pair mX11_missed mX12_missed [.int u, .int n] M m := by
  obtain ⟨P, pl, dr, lv, h⟩ := h
  refine (ev_missed h.cx h.pc h.ok hM h.ro h.cr).mono ?_
  rintro o m1 ⟨rfl, c⟩
  have c1 := ClK.of c
  obtain ⟨hx1, hm1, e0⟩ := c1.ref h
  refine ⟨_, rfl, (ex_missed hx1 hm1 h.ok).mono ?_⟩
  rintro o2 m2 ⟨rfl, k⟩
  exact ⟨by rw [show cp 105 (gI m1 315) (gI m1 316) = R0 m from e0], P, pl, dr, lv, (h.look c1 (RfK.of k)).le (by omega)⟩
theorem pr_sight {M : Nat} {m : Me} (h : Rl M m) (hM : M < 2 ^ 18) {x y th : Int32} : Pair mX11_sight mX12_sight [.int x, .int y, .int th] M m := by
  obtain ⟨P, pl, dr, lv, h⟩ := h
  refine (ev_sight h.cx h.pc h.ok hM h.ro h.cr).mono ?_
  rintro o m1 ⟨rfl, c⟩
  have c1 := ClK.of c
  obtain ⟨hx1, hm1, e0⟩ := c1.ref h
  refine ⟨_, rfl, (ex_sight hx1 hm1 h.ok).mono ?_⟩
  rintro o2 m2 ⟨rfl, k⟩
  exact ⟨by rw [show cp 105 (gI m1 315) (gI m1 316) = R0 m from e0], P, pl, dr, lv, (h.look c1 (RfK.of k)).le (by omega)⟩
theorem pr_wind {M : Nat} {m : Me} (h : Rl M m) (hM : M < 2 ^ 18) {n : Int32} : Pair mX11_wind mX12_wind [.int n] M m := by
  obtain ⟨P, pl, dr, lv, h⟩ := h
  refine (ev_wind h.cx h.pc h.ok hM h.ro h.cr).mono ?_
  rintro o m1 ⟨rfl, c⟩
  have c1 := ClK.of c
  obtain ⟨hx1, hm1, e0⟩ := c1.ref h
  refine ⟨_, rfl, (ex_wind hx1 hm1 h.ok).mono ?_⟩
  rintro o2 m2 ⟨rfl, k⟩
  exact ⟨by rw [show cp 105 (gI m1 315) (gI m1 316) = R0 m from e0], P, pl, dr, lv, (h.look c1 (RfK.of k)).le (by omega)⟩
theorem pr_lent {M : Nat} {m : Me} (h : Rl M m) (hM : M < 2 ^ 18) {x y : Int32} : Pair mX11_lent mX12_lent [.int x, .int y] M m := by
  obtain ⟨P, pl, dr, lv, h⟩ := h
  refine (ev_lent h.cx h.pc h.ok hM h.ro h.cr).mono ?_
  rintro o m1 ⟨rfl, c⟩
  have c1 := ClK.of c
  obtain ⟨hx1, hm1, e0⟩ := c1.ref h
  refine ⟨_, rfl, (ex_lent hx1 hm1 h.ok).mono ?_⟩
  rintro o2 m2 ⟨rfl, k⟩
  exact ⟨by rw [show cp 105 (gI m1 315) (gI m1 316) = R0 m from e0], P, pl, dr, lv, (h.look c1 (RfK.of k)).le (by omega)⟩
theorem pr_gone {M : Nat} {m : Me} (h : Rl M m) (hM : M < 2 ^ 18) {w : Int32} : Pair mX11_gone mX12_gone [.int w] M m := by
  obtain ⟨P, pl, dr, lv, h⟩ := h
  refine (ev_gone h.cx h.pc h.ok hM h.ro h.cr).mono ?_
  rintro o m1 ⟨rfl, c⟩
  have c1 := ClK.of c
  obtain ⟨hx1, hm1, e0⟩ := c1.ref h
  refine ⟨_, rfl, (ex_gone hx1 hm1 h.ok).mono ?_⟩
  rintro o2 m2 ⟨rfl, k⟩
  exact ⟨by rw [show cp 105 (gI m1 315) (gI m1 316) = R0 m from e0], P, pl, dr, lv, (h.look c1 (RfK.of k)).le (by omega)⟩
theorem pr_year {M : Nat} {m : Me} (h : Rl M m) (hM : M < 2 ^ 18) {u n s : Int32} : Pair mX11_year mX12_year [.int u, .int n, .int s] M m := by
  obtain ⟨P, pl, dr, lv, h⟩ := h
  refine (ev_year h.cx h.pc h.ok hM h.ro h.cr).mono ?_
  rintro o m1 ⟨rfl, c⟩
  have c1 := ClK.of c
  obtain ⟨hx1, hm1, e0⟩ := c1.ref h
  refine ⟨_, rfl, (ex_year hx1 hm1 h.ok).mono ?_⟩
  rintro o2 m2 ⟨rfl, k⟩
  exact ⟨by rw [show cp 105 (gI m1 315) (gI m1 316) = R0 m from e0], P, pl, dr, lv, (h.look c1 (RfK.of k)).le (by omega)⟩
theorem pr_cell {M : Nat} {m : Me} (h : Rl M m) (hM : M < 2 ^ 18) {x y w : Int32} : Pair mX11_cell mX12_cell [.int x, .int y, .int w] M m := by
  obtain ⟨P, pl, dr, lv, h⟩ := h
  refine (ev_cell h.cx h.pc h.ok hM h.ro h.cr).mono ?_
  rintro o m1 ⟨rfl, c⟩
  have c1 := ClK.of c
  obtain ⟨hx1, hm1, e0⟩ := c1.ref h
  refine ⟨_, rfl, (ex_cell hx1 hm1 h.ok).mono ?_⟩
  rintro o2 m2 ⟨rfl, k⟩
  exact ⟨by rw [show cp 105 (gI m1 315) (gI m1 316) = R0 m from e0], P, pl, dr, lv, (h.look c1 (RfK.of k)).le (by omega)⟩
theorem pr_holding {M : Nat} {m : Me} (h : Rl M m) (hM : M < 2 ^ 18) {x w : Int32} : Pair mX11_holding mX12_holding [.int x, .int w] M m := by
  obtain ⟨P, pl, dr, lv, h⟩ := h
  refine (ev_holding h.cx h.pc h.ok hM h.ro h.cr).mono ?_
  rintro o m1 ⟨rfl, c⟩
  have c1 := ClK.of c
  obtain ⟨hx1, hm1, e0⟩ := c1.ref h
  refine ⟨_, rfl, (ex_holding hx1 hm1 h.ok).mono ?_⟩
  rintro o2 m2 ⟨rfl, k⟩
  exact ⟨by rw [show cp 105 (gI m1 315) (gI m1 316) = R0 m from e0], P, pl, dr, lv, (h.look c1 (RfK.of k)).le (by omega)⟩
theorem pr_use {M : Nat} {m : Me} (h : Rl M m) (hM : M < 2 ^ 18) {u w : Int32} : Pair mX11_use mX12_use [.int u, .int w] M m := by
  obtain ⟨P, pl, dr, lv, h⟩ := h
  refine (ev_use h.cx h.pc h.ok hM h.ro h.cr).mono ?_
  rintro o m1 ⟨rfl, c⟩
  have c1 := ClK.of c
  obtain ⟨hx1, hm1, e0⟩ := c1.ref h
  refine ⟨_, rfl, (ex_use hx1 hm1 h.ok).mono ?_⟩
  rintro o2 m2 ⟨rfl, k⟩
  exact ⟨by rw [show cp 105 (gI m1 315) (gI m1 316) = R0 m from e0], P, pl, dr, lv, (h.look c1 (RfK.of k)).le (by omega)⟩
theorem pr_least {M : Nat} {m : Me} (h : Rl M m) (hM : M < 2 ^ 18) {x y n th : Int32} : Pair mX11_least mX12_least [.int x, .int y, .int n, .int th] M m := by
  obtain ⟨P, pl, dr, lv, h⟩ := h
  refine (ev_least h.cx h.pc h.ok hM h.ro h.cr).mono ?_
  rintro o m1 ⟨rfl, c⟩
  have c1 := ClK.of c
  obtain ⟨hx1, hm1, e0⟩ := c1.ref h
  refine ⟨_, rfl, (ex_least (M := M) hx1 hm1 h.ok (by rw [show cp 105 (gI m1 315) (gI m1 316) = R0 m from e0]; exact h.ro)).mono ?_⟩
  rintro o2 m2 ⟨rfl, k⟩
  exact ⟨by rw [show cp 105 (gI m1 315) (gI m1 316) = R0 m from e0], P, pl, dr, lv, (h.look c1 (RfK.of k)).le (by omega)⟩
theorem pr_unseen {M : Nat} {m : Me} (h : Rl M m) (hM : M < 2 ^ 18) {x y x2 y2 th : Int32} : Pair mX11_unseen mX12_unseen [.int x, .int y, .int x2, .int y2, .int th] M m := by
  obtain ⟨P, pl, dr, lv, h⟩ := h
  refine (ev_unseen h.cx h.pc h.ok hM h.ro h.cr).mono ?_
  rintro o m1 ⟨rfl, c⟩
  have c1 := ClK.of c
  obtain ⟨hx1, hm1, e0⟩ := c1.ref h
  refine ⟨_, rfl, (ex_unseen hx1 hm1 h.ok (h.th.of (c1.at h.cx (by decide)) (by rw [c1.at h.cx (show 274 ≤ 274 by decide)]) (c1.at h.cx (by decide)))).mono ?_⟩
  rintro o2 m2 ⟨rfl, k⟩
  exact ⟨by rw [show cp 105 (gI m1 315) (gI m1 316) = R0 m from e0], P, pl, dr, lv, (h.look c1 (k)).le (by omega)⟩
theorem pr_over {M : Nat} {m : Me} (h : Rl M m) (hM : M < 2 ^ 18) : Pair mX11_over mX12_over [] M m := by
  obtain ⟨P, pl, dr, lv, h⟩ := h
  refine (ev_over h.cx h.pc h.ok h.cr).mono ?_
  rintro o m1 ⟨rfl, e1⟩
  subst e1
  have c1 : ClK pl m1 m1 := ClK.rf
  obtain ⟨hx1, hm1, e0⟩ := c1.ref h
  refine ⟨_, rfl, (ex_over hx1 hm1 h.ok).mono ?_⟩
  rintro o2 m2 ⟨rfl, k⟩
  exact ⟨rfl, P, pl, dr, lv, (h.look c1 (RfK.of k)).le (by omega)⟩
theorem pr_watch {M : Nat} {m : Me} (h : Rl M m) (hM : M < 2 ^ 18) {x y th i : Int32} : Pair mX11_watch mX12_watch [.int x, .int y, .int th, .int i] M m := by
  obtain ⟨P, pl, dr, lv, h⟩ := h
  refine (ev_watch h.cx h.pc h.ok hM h.ro h.cr).mono ?_
  rintro o m1 ⟨⟨v, rfl, hv⟩, c1⟩
  obtain ⟨hx1, hm1, e0⟩ := c1.ref h
  refine ⟨_, rfl, (ex_watch hx1 hm1 h.ok).mono ?_⟩
  rintro o2 m2 ⟨⟨v', rfl, hv'⟩, k⟩
  rw [show cp 105 (gI m1 315) (gI m1 316) = R0 m from e0] at hv'
  exact ⟨by rw [WaQ_u hv hv'], P, pl, dr, lv, (h.look c1 k).le (by omega)⟩
theorem pr_leaks {M : Nat} {m : Me} (h : Rl M m) (hM : M < 2 ^ 18) {v : Int32} : Pair mX11_leaks mX12_leaks [.int v] M m := by
  obtain ⟨P, pl, dr, lv, h⟩ := h
  obtain ⟨t, tc, th, tf, t1, t2, hTO, hT, hTm⟩ := h.hu.td
  refine (ev_leaks h.cx h.pc h.ok hT hTO t1).mono ?_
  rintro o m1 ⟨c1, v', rfl, hv⟩
  obtain ⟨hx1, hm1, e0⟩ := c1.ref h
  refine ⟨_, rfl, (ex_leaks (t := t) (tc := tc) (th := th) (tf := tf) hx1 hm1 h.ok (fun i hi => by rw [c1.at h.cx (by decide), c1.at h.cx (by decide), c1.at h.cx (by decide)]; exact hTm i hi) hTO (by rw [c1.at h.cx (by decide)]; exact t2)).mono ?_⟩
  rintro o2 m2 ⟨k, v2, rfl, hv2⟩
  exact ⟨by rw [lekS_u hTO.1 hv hv2], P, pl, dr, lv, (h.look c1 k).le (by omega)⟩
theorem pr_sure {M : Nat} {m : Me} (h : Rl M m) (hM : M < 2 ^ 18) {v : Int32} : Pair mX11_sure mX12_sure [.int v] M m := by
  obtain ⟨P, pl, dr, lv, h⟩ := h
  obtain ⟨t, tc, th, tf, t1, t2, hTO, hT, hTm⟩ := h.hu.td
  refine (ev_sure h.cx h.pc h.ok hT hTO t1).mono ?_
  rintro o m1 ⟨c1, v', rfl, hv⟩
  obtain ⟨hx1, hm1, e0⟩ := c1.ref h
  refine ⟨_, rfl, (ex_sure (t := t) (tc := tc) (th := th) (tf := tf) hx1 hm1 h.ok (fun i hi => by rw [c1.at h.cx (by decide), c1.at h.cx (by decide), c1.at h.cx (by decide)]; exact hTm i hi) hTO (by rw [c1.at h.cx (by decide)]; exact t2)).mono ?_⟩
  rintro o2 m2 ⟨k, v2, rfl, hv2⟩
  exact ⟨by rw [SuR_u hTO.1 hv hv2], P, pl, dr, lv, (h.look c1 k).le (by omega)⟩
theorem pr_ask {M : Nat} {m : Me} (h : Rl M m) (hM : M < 2 ^ 18) {v n : Int32} : Pair mX11_ask mX12_ask [.int v, .int n] M m := by
  obtain ⟨P, pl, dr, lv, h⟩ := h
  obtain ⟨t, tc, th, tf, t1, t2, hTO, hT, hTm⟩ := h.hu.td
  refine (ev_ask h.cx h.pc h.ok hT hTO t1).mono ?_
  rintro o m1 ⟨c1, v', rfl, hv⟩
  obtain ⟨hx1, hm1, e0⟩ := c1.ref h
  refine ⟨_, rfl, (ex_ask (t := t) (tc := tc) (th := th) (tf := tf) hx1 hm1 h.ok (fun i hi => by rw [c1.at h.cx (by decide), c1.at h.cx (by decide), c1.at h.cx (by decide)]; exact hTm i hi) hTO (by rw [c1.at h.cx (by decide)]; exact t2)).mono ?_⟩
  rintro o2 m2 ⟨k, v2, rfl, hv2⟩
  exact ⟨by rw [AsR_u hTO.1 hv hv2], P, pl, dr, lv, (h.look c1 k).le (by omega)⟩
theorem HsR.ps {P : Pl} {M : Nat} {m : Me} (h : HsR P M m) : PsO m ∧ PsM m := by
  obtain ⟨s, x, h1, h2, h3, h4, h5, -⟩ := h
  exact ⟨⟨x, s, h2, h1, h3, h4⟩, s, h1, h5⟩
theorem DnC.ref {M : Nat} {P : Pl} {pl dr lv : Nat} {m m1 : Me} {o : Option (Nat → Int32)} (c : DnC P pl m m1 o) (h : RlP M P pl dr lv m) : Wf12 m1.1 (gR m1) ∧ MdC m1 P lv ∧ R0 m1 = R0 m ∧ ∀ x, 274 ≤ x → gI m1 x = gI m x := by
  have hpd := h.cx.pd
  cases o with
  | none =>
    obtain ⟨a, b, d⟩ := ClK.ref c h
    exact ⟨a, b, d, fun x hx => ClK.at c h.cx hx⟩
  | some r =>
    have e : ∀ x, 274 ≤ x → gI m1 x = gI m x := fun x hx => c.1.at (by unfold DnA LkS; omega)
    obtain ⟨a, b, d⟩ := ref_keep c.1.1 c.1.2.2.1 e h.wf h.md
    exact ⟨a, b, d, e⟩
theorem pr_draw {M : Nat} {m : Me} (h : Rl M m) (hM : M < 2 ^ 18) {x y z n : Int32} : Pair mX11_draw mX12_draw [.int x, .int y, .int z, .int n] M m := by
  obtain ⟨P, pl, dr, lv, h⟩ := h
  refine (ev_draw h.cx h.pc h.ok hM h.ro h.cr h.hs.ps.1).mono ?_
  rintro o m1 ⟨rfl, c⟩
  obtain ⟨hx1, hm1, e0, e⟩ := c.ref h
  refine ⟨_, rfl, (ex_draw hx1 hm1 h.ok (by obtain ⟨u, a, b⟩ := h.hs.ps.2; exact ⟨u, a, by rw [e 274 (by decide)]; exact b⟩)).mono ?_⟩
  rintro o2 m2 ⟨rfl, k⟩
  rw [show cp 105 (gI m1 315) (gI m1 316) = R0 m from e0] at k ⊢
  exact ⟨rfl, P, pl, dr, lv, (h.done (Nat.le_refl _) c k (dr_ok h.ok h.ro)).le (by omega)⟩
theorem pr_lend {M : Nat} {m : Me} (h : Rl M m) (hM : M < 2 ^ 18) {x y n : Int32} : Pair mX11_lend mX12_lend [.int x, .int y, .int n] M m := by
  obtain ⟨P, pl, dr, lv, h⟩ := h
  refine (ev_lend h.cx h.pc h.ok hM h.ro h.cr h.hs.ps.1).mono ?_
  rintro o m1 ⟨rfl, c⟩
  obtain ⟨hx1, hm1, e0, e⟩ := c.ref h
  refine ⟨_, rfl, (ex_lend hx1 hm1 h.ok (by obtain ⟨u, a, b⟩ := h.hs.ps.2; exact ⟨u, a, by rw [e 274 (by decide)]; exact b⟩)).mono ?_⟩
  rintro o2 m2 ⟨rfl, k⟩
  rw [show cp 105 (gI m1 315) (gI m1 316) = R0 m from e0] at k ⊢
  exact ⟨rfl, P, pl, dr, lv, (h.done (Nat.le_refl _) c k (ln_ok h.ok h.ro)).le (by omega)⟩
theorem pr_move {M : Nat} {m : Me} (h : Rl M m) (hM : M < 2 ^ 18) {x y z : Int32} : Pair mX11_move mX12_move [.int x, .int y, .int z] M m := by
  obtain ⟨P, pl, dr, lv, h⟩ := h
  refine (ev_move h.cx h.pc h.ok hM h.ro h.cr h.hs.ps.1).mono ?_
  rintro o m1 ⟨rfl, c⟩
  obtain ⟨hx1, hm1, e0, e⟩ := c.ref h
  refine ⟨_, rfl, (ex_move hx1 hm1 h.ok (by obtain ⟨u, a, b⟩ := h.hs.ps.2; exact ⟨u, a, by rw [e 274 (by decide)]; exact b⟩)).mono ?_⟩
  rintro o2 m2 ⟨rfl, k⟩
  rw [show cp 105 (gI m1 315) (gI m1 316) = R0 m from e0] at k ⊢
  exact ⟨rfl, P, pl, dr, lv, (h.done (Nat.le_refl _) c k (mo_ok h.ok h.ro)).le (by omega)⟩
theorem pr_hours {M : Nat} {m : Me} (h : Rl M m) (hM : M < 2 ^ 18) {n : Int32} : Pair mX11_hours mX12_hours [.int n] M m := by
  obtain ⟨P, pl, dr, lv, h⟩ := h
  refine (ev_hours h.cx h.pc h.ok hM h.ro h.cr h.hs.ps.1).mono ?_
  rintro o m1 ⟨rfl, c⟩
  obtain ⟨hx1, hm1, e0, e⟩ := c.ref h
  refine ⟨_, rfl, (ex_hours hx1 hm1 h.ok (by obtain ⟨u, a, b⟩ := h.hs.ps.2; exact ⟨u, a, by rw [e 274 (by decide)]; exact b⟩)).mono ?_⟩
  rintro o2 m2 ⟨rfl, k⟩
  rw [show cp 105 (gI m1 315) (gI m1 316) = R0 m from e0] at k ⊢
  exact ⟨rfl, P, pl, dr, lv, (h.done (by omega) c k (hu_ok h.ok hM h.ro))⟩
theorem pr_count {M : Nat} {m : Me} (h : Rl M m) (hM : M < 2 ^ 18) {w : Int32} : Pair mX11_count mX12_count [.int w] M m := by
  obtain ⟨P, pl, dr, lv, h⟩ := h
  refine (ev_count h.cx h.pc h.ok hM h.ro h.cr).mono ?_
  rintro o m1 ⟨rfl, e1⟩
  subst e1
  have c1 : ClK pl m1 m1 := ClK.rf
  refine ⟨_, rfl, (ex_count h.wf h.md h.ok).mono ?_⟩
  rintro o2 m2 ⟨rfl, k⟩
  refine ⟨?_, P, pl, dr, lv, (h.look c1 (RfK.of k)).le (by omega)⟩
  obtain ⟨n, -, a1, a2, -⟩ := h.tp
  obtain ⟨s, x, -, -, -, b1, b2, -⟩ := h.hs
  obtain ⟨t, -, d1, d2, -⟩ := h.hu
  have e : shS (gI m1 326) = shS (gI m1 210) := by
    have q : ∀ j, j < 3 → gI m1 326 j = gI m1 210 j := fun j hj => by
      rcases h.sl j hj with ⟨u, w⟩ | ⟨u, w, -⟩
      · rw [u, w]
      · rw [u, w]
    unfold shS
    rw [q 0 (by decide), q 1 (by decide), q 2 (by decide)]
  rw [a1, a2, b1, b2, d1, d2, e]
