/-! reading, on the reference's side -/
/-- what reading writes of the reference, up to a plan -/
def FG (sd : Nat) (m m' : Me) : Prop := Fx (fun x => x = 274 ∨ (276 ≤ x ∧ x ≤ 312)) (fun x => x = 280 ∨ x = 282) m m' ∧ (∀ k, (k = 18 ∨ 55 ≤ k) → gI m' 274 k = gI m 274 k) ∧ FS sd m m'
theorem FG.rf {sd : Nat} {m : Me} : FG sd m m := ⟨Fx.rf, fun _ _ => rfl, fun _ _ _ _ _ => rfl⟩
theorem FG.tr {sd : Nat} {m m' m'' : Me} (h : FG sd m m') (k : FG sd m' m'') : FG sd m m'' := ⟨h.1.tr k.1, fun x a => (k.2.1 x a).trans (h.2.1 x a), fun r j a b c => (k.2.2 r j a b c).trans (h.2.2 r j a b c)⟩
theorem FA.fg {sd : Nat} {m m' : Me} (c : FA sd m m') : FG sd m m' := ⟨c.1.mn (fun x h => by omega) (fun x h => by omega), fun k a => c.2.1 k (by omega) (by omega) (by omega) (by omega) (by omega) (by omega) (by omega) (by omega) (by omega) (by omega), c.2.2⟩
theorem FW.fg {sd : Nat} {m m' : Me} (c : FW m m') : FG sd m m' := ⟨c.1.mn (fun x h => Or.inl h) (fun x h => h.elim), fun k a => c.2 k (by omega) (by omega) (by omega) (by omega) (by omega), fun r j a b _ => by rw [c.1.at (by omega)]⟩
theorem FG.p {sd k : Nat} {m m' : Me} {v : Int32} (c : FG sd m m') (h : k < 55 ∧ k ≠ 18) : FG sd m (sI m' 274 (upd (gI m' 274) k v)) := ⟨Fx.I c.1 (Or.inl rfl), fun j a => by rw [gI_s, upd_ne (by omega)]; exact c.2.1 j a, fun r j a b n => by rw [gI_n (by omega)]; exact c.2.2 r j a b n⟩
theorem FG.wf {sd : Nat} {m m' : Me} (c : FG sd m m') (h : Wf12 m.1 (gR m)) : Wf12 m'.1 (gR m') := c.1.to (F := Wf12) h
theorem TkR.p {m : Me} {B : Nat → Nat} {n z : Nat} {x : Nat → Int32} (h : TkR m B n z) : TkR (sI m 274 x) B n z := ⟨h.1, h.2.1, h.2.2.1, fun j hj => by rw [gI_n (by decide), gI_n (by decide), gI_n (by decide), gJ_I]; exact h.2.2.2 j hj⟩
theorem RdU.p {m : Me} {sd k : Nat} {D : Dr} {v : Int32} (h : RdU m sd D) (hk : k ≠ 20) : RdU (sI m 274 (upd (gI m 274) k v)) sd D := h.fv (fun x a b => gI_n (by omega)) (by rw [gI_s, upd_ne (Ne.symm hk)])
theorem RdC.p {m : Me} {sd : Nat} {D : Dr} {x : Nat → Int32} (h : RdC m sd D) : RdC (sI m 274 x) sd D := h.fv (fun y a b => gI_n (by omega)) rfl
theorem LwI.p {m : Me} {sd p k : Nat} {D : Dr} {v : Int32} (h : LwI m sd D p) (hk : k ≠ 12 ∧ k ≠ 44 ∧ k ≠ 50 ∧ k ≠ 54) : LwI (sI m 274 (upd (gI m 274) k v)) sd D p := h.keep (fun x a b => gI_n (by omega)) (fun j hj => by rw [gI_s, upd_ne (by omega)]) (Nat.le_refl _) rfl
theorem RzU.u {m : Me} {sd : Nat} (h : RzU m sd) (hn : gI m 274 20 = nI 0) : RdU m sd drZ := by
  obtain ⟨⟨a, b, c, d, e⟩, f, g, i⟩ := h
  exact ⟨⟨a, b, c, d, e⟩, ⟨f, g, i⟩, fun h hh => absurd hh (Nat.not_lt_zero h), fun h hh => absurd hh (Nat.not_lt_zero h), fun h hh => absurd hh (Nat.not_lt_zero h), hn⟩
theorem drZ_c {m : Me} {sd : Nat} : RdC m sd drZ := ⟨fun c _ h => absurd h (Nat.not_lt_zero _), fun u hu => absurd hu (Nat.not_lt_zero u), fun k hk => absurd hk (Nat.not_lt_zero k), fun h hh => absurd hh (Nat.not_lt_zero h), fun u hu => absurd hu (Nat.not_lt_zero u)⟩
theorem LwI.z {m : Me} {sd : Nat} (hl : ∀ k, k < 4 → gI m 303 (4 * sd + k) = nI 0 ∧ gI m 304 (4 * sd + k) = nI 0) (h12 : gI m 274 12 = nI 0) (h44 : gI m 274 44 = nI (130 * sd)) (h50 : gI m 274 50 = nI (420 * sd)) (h54 : ∃ W : List Nat, W.length ≤ 410 ∧ gI m 274 54 = nI W.length ∧ ∀ i k, W.reverse[i]? = some k → gI m 312 i = nI (rk k)) : LwI m sd drZ 0 := by
  obtain ⟨W, w1, w2, w3⟩ := h54
  exact ⟨[], W, 130 * sd, ⟨h50, fun i c (hi : ([] : Cs)[i]? = some c) => (by cases hi), w2, w3⟩, Nat.le_refl _, by show 0 + W.length ≤ 410; omega, h44, Nat.le_refl _, by omega, h12, fun k hk => Or.inl ⟨(hl k hk).1, (hl k hk).2, rfl⟩⟩
/-- the first wrong's token lies ahead of the tell's end -/
theorem teW_lt {K V : Nat → Nat} {N : Nat → List Nat} {c : Nat → Nat} {k p r : Nat} {D : Dr} {w : Nat × Nat} (hr : p < r) (h : teO K c k p r) (hw : w.1 ≠ 0 → w.2 < p) : (teW V N k p D w).1 ≠ 0 → (teW V N k p D w).2 < r := by
  have h1 : w.1 ≠ 0 → w.2 < p + 1 := fun q => Nat.lt_succ_of_lt (hw q)
  obtain ⟨-, -, ⟨rfl, -, -, -, e⟩ | ⟨rfl, -, -, -, -, -, e⟩ | ⟨rfl, -, -, -, -, -, -, -, e⟩ | ⟨rfl, -, -, -, -, -, e⟩ | ⟨k4, -, -, x, q, -, -, -, -, e⟩ | ⟨k8, -, -, e⟩⟩ := h
  · subst e
    exact fun q => Nat.lt_succ_of_lt (wq_lt h1 q)
  · subst e
    exact fun q => Nat.lt_succ_of_lt (wq_lt (wq_lt (wq_lt h1)) q)
  · subst e
    exact fun q => Nat.lt_succ_of_lt (wq_lt (wq_lt (wq_lt (wq_lt (wq_lt h1)))) q)
  · subst e
    exact fun q => Nat.lt_succ_of_lt (wq_lt (wq_lt (wq_lt h1)) q)
  · rw [teW_l k4]
    intro g
    have := hw g
    omega
  · subst e
    rcases k8 with rfl | rfl | rfl
    · exact fun q => Nat.lt_succ_of_lt (wq_lt h1 q)
    · exact fun q => Nat.lt_succ_of_lt (wq_lt h1 q)
    · exact fun q => Nat.lt_succ_of_lt (wq_lt h1 q)
/-- the reference's draft is the plan -/
theorem rd_md {m : Me} {sd p : Nat} {D : Dr} {c : Nat → Nat} (hs2 : sd < 2) (h18 : gI m 274 18 = nI sd) (hU : RdU m sd D) (hC : RdC m sd D) (hL : LwI m sd D p) (hp : p ≤ 400) (hd : DrO D) (hc : CnW c D) (hf : ∀ k, k < 40 → gI m 287 (40 * sd + k) = nI (bfo D.bk k (D.n 4))) : MdC m (plD D) sd := by
  obtain ⟨y0, y1, y2, y3, y4, z0, z1, z2, z3⟩ := hc
  obtain ⟨⟨u0, u1, u2, u3, u4⟩, ⟨i0, i1, i2⟩, uh, uu, ub, un⟩ := hU
  obtain ⟨c1, c2, c3⟩ := hC
  obtain ⟨C, W, b, ⟨r1, r2, r3, r4⟩, l1, l2, l3, l4, l5, l6, l7⟩ := hL
  refine ⟨hs2, h18, u0, u1, u2, u3, u4, i0.trans (plD_lo (by decide)).symm, i1.trans (plD_lo (by decide)).symm, i2.trans (plD_lo (by decide)).symm, fun h hh => ?_, fun u hu => ?_, fun q hq hl => ?_, C, r2, by omega, fun k hk => ?_⟩
  · have hh : h < D.n 2 := hh
    rw [show (plD D).ra h = D.i (10 + h) from plD_lo (by omega), show (plD D).st h = D.i (20 + h) from plD_lo (by omega)]
    exact uh h hh
  · have hu : u < D.n 3 := hu
    rw [show (plD D).uo u = D.i (30 + u) from plD_lo (by omega), show (plD D).uf u = D.i (40 + u) from plD_lo (by omega), show (plD D).ut u = D.i (50 + u) from plD_lo (by omega), show (plD D).uk u = D.i (60 + u) from plD_lo (by omega)]
    exact ⟨c2 u hu, uu u hu⟩
  · rw [show (plD D).wh q = D.i (100 + q) from plD_lo (by omega), plD_fo]
    exact ⟨c1 q hq hl.1 hl.2, hf q hq⟩
  · rcases l7 k hk with ⟨a1, a2, a3⟩ | ⟨b0, a1, a2, a3, a4, a5⟩
    · exact Or.inl ⟨a1, a2, fun v => by show lwP v (D.l k).1 (D.l k).2 = _; rw [a3]; exact deL_v k hk v⟩
    · exact Or.inr ⟨b0, (D.l k).1, (D.l k).2, a1, by omega, a3, a4, a5, (hd.2.2.2.2.2.2.2.2.1 k hk).1, (hd.2.2.2.2.2.2.2.2.1 k hk).2, fun v => rfl⟩
