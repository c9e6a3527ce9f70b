/-! names of letters (1 .. 26), as the class and as the reference number them -/
def nkC (l : List Nat) : Nat := l.foldl (fun k c => 32 * k + c) 0
def nkM (l : List Nat) : Nat := l.foldl (fun k c => 27 * k + c) 0
def kwT : List (List Nat) := [[18, 15, 23], [8, 15, 12, 4, 9, 14, 7], [21, 19, 5], [2, 1, 14, 11], [23, 9, 14, 4], [4, 18, 9, 6, 20, 19], [20, 8, 9, 14, 19], [7, 9, 22, 5, 19], [7, 21, 19, 20, 19], [12, 5, 1, 11], [19, 5, 5, 4], [9, 6], [20, 8, 5, 14], [5, 12, 19, 5], [6, 15, 7], [8, 15, 21, 18], [4, 1, 25], [1, 3, 18, 15, 19, 19], [4, 15, 23, 14], [23, 8, 15, 19, 5], [19, 20, 15, 18, 5], [18, 1, 20, 9, 15, 14], [2, 12, 15, 23, 19]]
def kwL (k : Nat) : List Nat := kwT.getD k []
def kwC (k : Nat) : Int64 := lN (nkC (kwL k))
def kwM (k : Nat) : Int64 := lN (nkM (kwL k))
/-! THE RELATION between the class's object (place 0) and the reference (place 274), as it stands between two calls -/
/-- what the class writes when it looks -/
def LkA (pl : Nat) : Nat → Prop := fun x => x = 14 ∨ x = pl + 12 ∨ x = pl + 13 ∨ (21 ≤ x ∧ x ≤ 26) ∨ (215 ≤ x ∧ x ≤ 225)
def ClK (pl : Nat) (m m' : Me) : Prop := m'.1 = m.1 ∧ gR m' = gR m ∧ (∀ x, ¬ LkA pl x → gI m' x = gI m x) ∧ ∀ x, x ≠ 224 → gJ m' x = gJ m x
theorem ClK.of {pl : Nat} {m m' : Me} (h : Ch (LkS pl) m m') : ClK pl m m' :=
  ⟨h.1, h.2.2.1, fun x hx => h.at (fun q => hx (by unfold LkS at q; unfold LkA; omega)), fun _ _ => by rw [h.2.1]⟩
theorem ClK.rf {pl : Nat} {m : Me} : ClK pl m m := ⟨rfl, rfl, fun _ _ => rfl, fun _ _ => rfl⟩
theorem ClK.tr {pl : Nat} {m m' m'' : Me} (h : ClK pl m m') (k : ClK pl m' m'') : ClK pl m m'' :=
  ⟨k.1.trans h.1, k.2.1.trans h.2.1, fun x hx => (k.2.2.1 x hx).trans (h.2.2.1 x hx), fun x hx => (k.2.2.2 x hx).trans (h.2.2.2 x hx)⟩
/-- the signs that wait, as the reference numbers them -/
def rk0 (k : Nat) : Nat := if k < 23 then 20 + k else [1, 2, 4, 5, 8, 9, 10, 15, 13, 6, 7, 0, 3].getD (k - 23) 3
/-- what waited when a text was read last -/
def WvR (m : Me) : Prop := ∃ W : List Nat, W.length ≤ 410 ∧ gI m 274 54 = nI W.length ∧ ∀ i k, W.reverse[i]? = some k → gI m 312 i = nI (rk0 k)
/-- isThen holds truths; what waits is told by signs -/
def ThR (m : Me) : Prop := (∀ k, k < 40 → gI m 320 k = nI 0 ∨ gI m 320 k = nI 1) ∧ WvR m
theorem ThR.of {m m' : Me} (h : ThR m) (e : gI m' 320 = gI m 320) (a : gI m' 274 54 = gI m 274 54) (b : gI m' 312 = gI m 312) : ThR m' := ⟨fun k hk => by rw [e]; exact h.1 k hk, by unfold WvR; rw [a, b]; exact h.2⟩
def RfA : Nat → Prop := fun x => x = 274 ∨ x = 313 ∨ x = 314 ∨ x = 316 ∨ x = 317 ∨ x = 319 ∨ x = 320 ∨ x = 321 ∨ x = 325
/-- what the reference writes when it looks -/
def RfK (m m' : Me) : Prop := Ch RfA m m' ∧ (∀ k, k ≠ 57 → k ≠ 60 → k ≠ 61 → gI m' 274 k = gI m 274 k) ∧ (ThR m → ThR m')
theorem RfK.of {m m' : Me} (h : Mo m m') : RfK m m' :=
  ⟨h.1.mn (fun x hx => by unfold RfA; omega), h.2, fun t => t.of (h.1.at (by omega)) (h.2 54 (by decide) (by decide) (by decide)) (h.1.at (by omega))⟩
theorem RfK.rf {m : Me} : RfK m m := ⟨Ch.rf, fun _ _ _ _ => rfl, id⟩
theorem RfK.tr {m m' m'' : Me} (h : RfK m m') (k : RfK m' m'') : RfK m m'' := ⟨h.1.tr k.1, fun x a b c => (k.2.1 x a b c).trans (h.2.1 x a b c), fun t => k.2.2 (h.2.2 t)⟩
/-- the tape -/
def TpR (m : Me) : Prop := ∃ n, n ≤ 2000 ∧ gI m 1 1 = nI n ∧ gI m 274 2 = nI n ∧ ∀ k, k < n → gI m 2 k = gI m 275 k
/-- the j-th of what can be undone, in the reference -/
def hrw (m : Me) (j : Nat) : Nat → Int32 := fun k => gI m 318 (105 * j + k)
def HsR (P : Pl) (M : Nat) (m : Me) : Prop := ∃ s x, s ≤ 30 ∧ x < 30 ∧ gI m 27 1 = nI x ∧ gI m 27 2 = nI s ∧ gI m 274 63 = nI s ∧ ∀ j, j < s → CR P (gw m (29 + 6 * ((x + 30 - s + j) % 30))) (hrw m j) ∧ RoOk P M (hrw m j)
/-- what is told -/
def HuR (P : Pl) (m : Me) : Prop := ∃ t, t ≤ 20 ∧ gI m 211 3 = nI t ∧ gI m 274 68 = nI t ∧ ∀ i, i < t → ∃ c h f, c < 40 ∧ ld P c ∧ h ≤ 24 ∧ f ≤ 99 ∧ gI m 212 i = nI c ∧ gI m 213 i = nI h ∧ gI m 214 i = nI f ∧ gI m 322 i = nI c ∧ gI m 323 i = nI h ∧ gI m 324 i = nI f
/-- a slot's row -/
def srw (m : Me) (j : Nat) : Nat → Int32 := fun k => gI m 327 (105 * j + k)
def SlR (P : Pl) (M : Nat) (m : Me) : Prop := ∀ j, j < 3 → (gI m 210 j = nI 0 ∧ gI m 326 j = nI 0) ∨ (gI m 210 j = nI 1 ∧ gI m 326 j = nI 1 ∧ CR P (gw m (256 + 6 * j)) (srw m j) ∧ RoOk P M (srw m j))
/-- the words' names -/
def KwR (m : Me) : Prop := (∀ k, k < 23 → gJ m 4 k = kwC k) ∧ ∀ k, k < 23 → gJ m 281 k = kwM k
def RlP (M : Nat) (P : Pl) (pl dr lv : Nat) (m : Me) : Prop := m.1 = 328 ∧ CX m.1 (gR m) pl dr ∧ Wf12 m.1 (gR m) ∧ PlC m pl P ∧ PlOk P ∧ MdC m P lv ∧ RoOk P M (gI m 315) ∧ CR P (gw m 15) (gI m 315) ∧ TpR m ∧ gI m 3 7 = gI m 274 17 ∧ KwR m ∧ HsR P M m ∧ HuR P m ∧ SlR P M m ∧ ThR m
def Rl (M : Nat) (m : Me) : Prop := ∃ P pl dr lv, RlP M P pl dr lv m
theorem TpR.keep {m m' : Me} (h : TpR m) (a : gI m' 1 = gI m 1) (b : gI m' 274 2 = gI m 274 2) (c : gI m' 2 = gI m 2) (d : gI m' 275 = gI m 275) : TpR m' := by
  obtain ⟨n, h1, h2, h3, h4⟩ := h
  exact ⟨n, h1, by rw [a]; exact h2, by rw [b]; exact h3, fun k hk => by rw [c, d]; exact h4 k hk⟩
theorem RoOk.le {P : Pl} {M M' : Nat} {r : Nat → Int32} (h : RoOk P M r) (q : M ≤ M') : RoOk P M' r := by
  obtain ⟨a, b, c, t, d, e⟩ := h
  exact ⟨a, b, c, t, Nat.le_trans d q, e⟩
theorem HsR.keep {P : Pl} {M M' : Nat} {m m' : Me} (h : HsR P M m) (q : M ≤ M') (a : gI m' 27 = gI m 27) (b : gI m' 274 63 = gI m 274 63) (c : ∀ x, 29 ≤ x → x < 209 → gI m' x = gI m x) (d : gI m' 318 = gI m 318) : HsR P M' m' := by
  obtain ⟨s, x, h1, h2, h3, h4, h5, h6⟩ := h
  refine ⟨s, x, h1, h2, by rw [a]; exact h3, by rw [a]; exact h4, by rw [b]; exact h5, fun j hj => ?_⟩
  obtain ⟨e1, e2⟩ := h6 j hj
  have e : hrw m' j = hrw m j := by unfold hrw; rw [d]
  have hm : (x + 30 - s + j) % 30 < 30 := Nat.mod_lt _ (by decide)
  have g : gw m' (29 + 6 * ((x + 30 - s + j) % 30)) = gw m (29 + 6 * ((x + 30 - s + j) % 30)) := by
    generalize (x + 30 - s + j) % 30 = z at hm ⊢
    unfold gw
    rw [c _ (by omega) (by omega), c _ (by omega) (by omega), c _ (by omega) (by omega), c _ (by omega) (by omega), c _ (by omega) (by omega), c _ (by omega) (by omega)]
  rw [e, g]
  exact ⟨e1, e2.le q⟩
theorem HuR.keep {P : Pl} {m m' : Me} (h : HuR P m) (a : gI m' 211 3 = gI m 211 3) (b : gI m' 274 68 = gI m 274 68) (c : ∀ x, 212 ≤ x → x ≤ 214 → gI m' x = gI m x) (d : ∀ x, 322 ≤ x → x ≤ 324 → gI m' x = gI m x) : HuR P m' := by
  obtain ⟨t, h1, h2, h3, h4⟩ := h
  refine ⟨t, h1, by rw [a]; exact h2, by rw [b]; exact h3, fun i hi => ?_⟩
  rw [c 212 (by omega) (by omega), c 213 (by omega) (by omega), c 214 (by omega) (by omega), d 322 (by omega) (by omega), d 323 (by omega) (by omega), d 324 (by omega) (by omega)]
  exact h4 i hi
theorem SlR.keep {P : Pl} {M M' : Nat} {m m' : Me} (h : SlR P M m) (q : M ≤ M') (a : gI m' 210 = gI m 210) (b : gI m' 326 = gI m 326) (c : ∀ x, 256 ≤ x → x < 274 → gI m' x = gI m x) (d : gI m' 327 = gI m 327) : SlR P M' m' := by
  intro j hj
  have e : srw m' j = srw m j := by unfold srw; rw [d]
  have g : gw m' (256 + 6 * j) = gw m (256 + 6 * j) := by
    unfold gw
    rw [c _ (by omega) (by omega), c _ (by omega) (by omega), c _ (by omega) (by omega), c _ (by omega) (by omega), c _ (by omega) (by omega), c _ (by omega) (by omega)]
  rw [a, b, e, g]
  rcases h j hj with h1 | ⟨h1, h2, h3, h4⟩
  · exact Or.inl h1
  · exact Or.inr ⟨h1, h2, h3, h4.le q⟩
theorem KwR.keep {m m' : Me} (h : KwR m) (a : gJ m' 4 = gJ m 4) (b : gJ m' 281 = gJ m 281) : KwR m' := by
  unfold KwR
  rw [a, b]; exact h
/-- behind looks of both the relation still stands -/
theorem RlP.look {M : Nat} {P : Pl} {pl dr lv : Nat} {m m1 m2 : Me} (h : RlP M P pl dr lv m) (c : ClK pl m m1) (k : RfK m1 m2) : RlP M P pl dr lv m2 := by
  obtain ⟨h1, h2, h3, h4, h5, h6, h7, h8, h9, hA, hB, hC, hD, hE, hF⟩ := h
  have hpd := h2.pd
  have e : ∀ x, ¬ LkA pl x → ¬ RfA x → gI m2 x = gI m x := fun x a b => (k.1.at b).trans (c.2.2.1 x a)
  have eR : gR m2 = gR m := k.1.2.2.1.trans c.2.1
  have e1 : m2.1 = m.1 := k.1.1.trans c.1
  have eJ : ∀ x, x ≠ 224 → gJ m2 x = gJ m x := fun x q => by rw [k.1.2.1]; exact c.2.2.2 x q
  have e274 : ∀ q, q ≠ 57 → q ≠ 60 → q ≠ 61 → gI m2 274 q = gI m 274 q := fun q a b d => by rw [k.2.1 q a b d, c.2.2.1 274 (by unfold LkA; omega)]
  have ee : ∀ x, ¬ (x = 14 ∨ x = pl + 12 ∨ x = pl + 13 ∨ (21 ≤ x ∧ x ≤ 26) ∨ (215 ≤ x ∧ x ≤ 225) ∨ x = 274 ∨ x = 313 ∨ x = 314 ∨ x = 316 ∨ x = 317 ∨ x = 319 ∨ x = 320 ∨ x = 321 ∨ x = 325) → gI m2 x = gI m x := fun x a => e x (by unfold LkA; omega) (by unfold RfA; omega)
  refine ⟨e1.trans h1, by rw [e1, eR]; exact h2, by rw [e1, eR]; exact h3, h4.keep (fun x a b d => ee x (by omega)), h5, h6.keep (e274 18 (by decide) (by decide) (by decide)) (fun x a b => ee x (by omega)), by rw [ee 315 (by omega)]; exact h7, ?_, h9.keep (ee 1 (by omega)) (e274 2 (by decide) (by decide) (by decide)) (ee 2 (by omega)) (ee 275 (by omega)), by rw [ee 3 (by omega), e274 17 (by decide) (by decide) (by decide)]; exact hA, hB.keep (eJ 4 (by decide)) (eJ 281 (by decide)), hC.keep (Nat.le_refl _) (ee 27 (by omega)) (e274 63 (by decide) (by decide) (by decide)) (fun x a b => ee x (by omega)) (ee 318 (by omega)), hD.keep (by rw [ee 211 (by omega)]) (e274 68 (by decide) (by decide) (by decide)) (fun x a b => ee x (by omega)) (fun x a b => ee x (by omega)), hE.keep (Nat.le_refl _) (ee 210 (by omega)) (ee 326 (by omega)) (fun x a b => ee x (by omega)) (ee 327 (by omega)), k.2.2 (hF.of (c.2.2.1 320 (by unfold LkA; omega)) (by rw [c.2.2.1 274 (by unfold LkA; omega)]) (c.2.2.1 312 (by unfold LkA; omega)))⟩
  rw [ee 315 (by omega)]
  have g : gw m2 15 = gw m 15 := by
    unfold gw
    rw [ee 16 (by omega), ee 17 (by omega), ee 18 (by omega), ee 19 (by omega), ee 20 (by omega), ee 15 (by omega)]
  rw [g]
  exact h8
