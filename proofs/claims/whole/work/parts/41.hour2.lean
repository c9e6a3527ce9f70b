theorem hl_wi (v : Int32) {n : Nat} (hn : n < 2 ^ 31) : wiS v (nI n) = hlS v (nI 0) (nI n) := by
  obtain ⟨t, -, h1, h2⟩ := hl_nat v hn
  rw [h1, h2]
theorem hl_in {n a : Nat} (h : a ≤ n) (hn : n < 2 ^ 31) : hlS (nI a) (nI 0) (nI n) = nI a := by
  unfold hlS
  rw [if_pos (nI_le (by omega) (by omega)), if_pos (nI_le h hn)]
theorem hl_tw (v : Int32) : hlS (hlS v (nI 0) (nI 9999)) (nI 0) (nI 99) = hlS v (nI 0) (nI 99) := by
  by_cases h0 : v < 0
  · have e : ∀ n, hlS v (nI 0) (nI n) = nI 0 := fun n => by
      unfold hlS; rw [if_neg (by rw [nI_0]; exact Int32.not_le.mpr h0)]
    rw [e, e, hl_in (by omega) (by omega)]
  · obtain ⟨j, hj, rfl⟩ := nI_of h0
    by_cases h1 : j ≤ 9999
    · rw [hl_in h1 (by omega)]
    · have e : ∀ n, n < j → n < 2 ^ 31 → hlS (nI j) (nI 0) (nI n) = nI n := fun n a b => by
        unfold hlS
        rw [if_pos (nI_le (by omega) (by omega)), if_neg (nI_ge a hj)]
      rw [e 9999 (by omega) (by omega), e 99 (by omega) (by omega)]
      unfold hlS
      rw [if_pos (nI_le (by omega) (by omega)), if_neg (nI_ge (by omega) (by omega))]
theorem fg_eq {P : Pl} (ok : PlOk P) {F W f w : Nat → Int32} {h : Int32} (h1 : ∀ c, c < 40 → ld P c → F c = f c ∧ W c = w c) (h2 : ∀ c, c < 40 → ¬ ld P c → W c ≠ h) : fgS F W h 40 = fgY f w h P.wd P.rw := by
  have a : ∀ n, fgS F W h n = fo (fun c a => if W c = h then a + F c else a) n (nI 0) := by
    intro n
    induction n with
    | zero => rfl
    | succ n ih => rw [fgS, fo, ih]
  have bx : ∀ y acc x, fgX f w h y acc x = foX (fun c a => if w c = h then a + f c else a) y x acc := by
    intro y acc x
    induction x with
    | zero => rfl
    | succ x ih => rw [fgX, foX, ih]
  have by' : ∀ y, fgY f w h P.wd y = foY (fun c a => if w c = h then a + f c else a) P.wd y (nI 0) := by
    intro y
    induction y with
    | zero => rfl
    | succ y ih => rw [fgY, foY, ih, bx]
  rw [a, by']
  refine fo_nest ok.1 ok.2.1 (fun c hc l => ?_) (fun c hc l b => if_neg (h2 c hc l))
  funext b
  rw [(h1 c hc l).1, (h1 c hc l).2]
theorem ct_eq {P : Pl} (ok : PlOk P) {W w : Nat → Int32} {h : Int32} (h1 : ∀ c, c < 40 → ld P c → W c = w c) (h2 : ∀ c, c < 40 → ¬ ld P c → W c ≠ h) : ctS W h 40 = ctY w h P.wd P.rw := by
  have a : ∀ n, ctS W h n = fo (fun c a => if W c = h then a + 1 else a) n 0 := by
    intro n
    induction n with
    | zero => rfl
    | succ n ih => rw [ctS, fo, ih]
  have bx : ∀ y acc x, ctX w h y acc x = foX (fun c a => if w c = h then a + 1 else a) y x acc := by
    intro y acc x
    induction x with
    | zero => rfl
    | succ x ih => rw [ctX, foX, ih]
  have by' : ∀ y, ctY w h P.wd y = foY (fun c a => if w c = h then a + 1 else a) P.wd y 0 := by
    intro y
    induction y with
    | zero => rfl
    | succ y ih => rw [ctY, foY, ih, bx]
  rw [a, by']
  refine fo_nest ok.1 ok.2.1 (fun c hc l => ?_) (fun c hc l b => if_neg (h2 c hc l))
  funext b
  rw [h1 c hc l]
/-- a class's row c is the reference's row r -/
def CR (P : Pl) (c r : Nat → Int32) : Prop := ∀ k, k < 105 → c k = if 40 ≤ k ∧ k < 80 ∧ ¬ ld P (k - 40) then -1 else r k
theorem CR.f {P : Pl} {c r : Nat → Int32} (h : CR P c r) {k : Nat} (hk : k < 40) : c k = r k := by rw [h k (by omega), if_neg (by omega)]
theorem CR.s {P : Pl} {c r : Nat → Int32} (h : CR P c r) {k : Nat} (hk : 80 ≤ k) (hk2 : k < 105) : c k = r k := by rw [h k hk2, if_neg (by omega)]
theorem CR.w {P : Pl} {c r : Nat → Int32} (h : CR P c r) {k : Nat} (hk : k < 40) (l : ld P k) : c (40 + k) = r (40 + k) := by
  rw [h _ (by omega), if_neg (fun q => q.2.2 (by rw [show 40 + k - 40 = k by omega]; exact l))]
theorem CR.o {P : Pl} {c r : Nat → Int32} (h : CR P c r) {k : Nat} (hk : k < 40) (l : ¬ ld P k) : c (40 + k) = -1 := by
  rw [h _ (by omega), if_pos ⟨by omega, by omega, by rw [show 40 + k - 40 = k by omega]; exact l⟩]
/-- a row is in order: fog, whose, stores, hour -/
def RoOk (P : Pl) (M : Nat) (r : Nat → Int32) : Prop := FgOk P 99 r ∧ (∀ c, c < 40 → ld P c → r (40 + c) = nI 9 ∨ ∃ h, h < P.hd ∧ r (40 + c) = nI h) ∧ (∀ h, h < 4 → ∃ n, n ≤ 999 ∧ r (80 + h) = nI n) ∧ ∃ t, t ≤ M ∧ r 104 = nI t
theorem r2_t {P : Pl} {b la : Int32} {a : Nat → Int32} {k : Nat} (hk : k < 40) (l : ld P k) : r2M P b la a k = thM P b la a k := pwD_t ⟨hk, l.1, Or.inl l.2⟩
theorem r2_f {P : Pl} {b la : Int32} {a : Nat → Int32} {k : Nat} (h : 40 ≤ k ∨ ¬ ld P k) : r2M P b la a k = a k := pwD_f (fun q => by
  rcases h with h | h
  · exact absurd q.1 (by omega)
  · exact h ⟨q.2.1, by rcases q.2.2 with z | z
                       · exact z
                       · exact absurd z.2 (by omega)⟩)
/-- a cell, thinned, both ways -/
theorem th_eq {P : Pl} (ok : PlOk P) {F W a : Nat → Int32} {b la : Int32} {B : Nat} (hB : B < 2 ^ 30) (hf : FgOk P B a) (hF : ∀ c, c < 40 → F c = a c) (hW : ∀ c, c < 40 → ld P c → W c = a (40 + c)) {k : Nat} (hk : k < 40) : thS2 P (eW (a 104) b) F W P.le la k = r2M P b la a k ∧ ∃ n, n ≤ 99 ∧ r2M P b la a k = nI n := by
  obtain ⟨h1, n, t, hn, ht, en, et⟩ := t_eq (k := 2) (e := eW (a 104) b) (by omega : B < 2 ^ 31) hf hF hW hk
  obtain ⟨q, hq, eq⟩ := ok.2.2.2.2.2.1
  unfold thS2
  rw [h1, hF k hk]
  by_cases l : ld P k
  · rw [r2_t hk l]
    unfold thM
    rw [en, et, pk_sub ht, ← nI_0]
    have hle : nI n ≤ nI 0 ↔ n ≤ 0 := nI_leI (by omega) (by omega)
    obtain ⟨z, hz, e1, -⟩ := hl_nat (if nI k = la then hlS (nI (n - t) - P.le) (nI 0) (nI 9999) else nI (n - t)) (n := 99) (by omega)
    refine ⟨?_, z, hz, e1⟩
    by_cases h0 : n ≤ 0
    · rw [if_pos (hle.mpr h0), show n = 0 by omega, show 0 - t = 0 by omega]
      by_cases hl : nI k = la
      · rw [if_pos hl, hl_tw, eq]
        obtain ⟨z2, hz2, e2, -⟩ := hl_nat (nI 0 - nI q) (n := 0) (by omega)
        by_cases q0 : q = 0
        · subst q0; rw [pk_sub (Nat.le_refl 0), hl_in (by omega) (by omega)]
        · have : nI 0 - nI q < 0 := pk_sneg (by omega) (by omega)
          unfold hlS
          rw [if_neg (by rw [nI_0] at this ⊢; exact Int32.not_le.mpr this)]
      · rw [if_neg hl, hl_in (by omega) (by omega)]
    · rw [if_neg (fun z => h0 (hle.mp z)), hl_wi _ (by omega)]
      by_cases hl : nI k = la
      · rw [if_pos hl, if_pos hl, hl_tw]
      · rw [if_neg hl, if_neg hl]
  · rw [r2_f (Or.inr l), hf.2 k hk l]
    exact ⟨by rw [if_pos (by rw [nI_0]; exact Int32.le_refl 0)], 0, by omega, rfl⟩
theorem r1_fg {P : Pl} (ok : PlOk P) {r : Nat → Int32} {b : Int32} {B : Nat} (hB : B < 2 ^ 20) (hf : FgOk P B r) : FgOk P (80 * B) (r1M P b r) := by
  have := (step_eq ok (e := eW (r 104) b) (F := r) (W := fun c => r (40 + c)) (b := b) hB hf (fun _ _ => rfl) (fun _ _ _ => rfl)).2
  refine ⟨fun c hc => ?_, fun c hc l => ?_⟩
  · unfold r1M; rw [if_pos hc]; exact this.1 c hc
  · unfold r1M; rw [if_pos hc]; exact this.2 c hc l
/-- the fog behind the steps, both ways -/
theorem f1_eq {P : Pl} (ok : PlOk P) {F W r : Nat → Int32} {se : Int32} (hf : FgOk P 99 r) (hF : ∀ c, c < 40 → F c = r c) (hW : ∀ c, c < 40 → ld P c → W c = r (40 + c)) : (∀ k, k < 40 → f1S P (nI P.wd) (nI P.rw) P.gu se (r 104) F W k = f1M P se r k) ∧ FgOk P 633600 (f1M P se r) ∧ ∀ k, 40 ≤ k → f1M P se r k = r k := by
  have hmono : ∀ {B : Nat} {x : Nat → Int32}, B ≤ 633600 → FgOk P B x → FgOk P 633600 x := fun hB h => ⟨fun c hc => by obtain ⟨n, h1, h2⟩ := h.1 c hc; exact ⟨n, by omega, h2⟩, h.2⟩
  unfold f1S f1M
  rw [w_eq]
  generalize wM P (r 104) = b
  by_cases hb : b ≤ 0
  · rw [if_pos hb, if_pos hb]
    exact ⟨hF, hmono (by omega) hf, fun _ _ => rfl⟩
  rw [if_neg hb, if_neg hb]
  have s1 := step_eq ok (e := eW (r 104) b) (F := F) (W := W) (b := b) (B := 99) (by omega) hf hF hW
  have e1 : ∀ k, k < 40 → mvS F (tS P (eW (r 104) b) F W 1) (nxS (nI P.wd) (nI P.rw) b) 40 k = r1M P b r k := fun k hk => by rw [s1.1 k hk]; unfold r1M; rw [if_pos hk]
  have g1 := r1_fg ok (b := b) (B := 99) (by omega) hf
  have h104 : r1M P b r 104 = r 104 := if_neg (by omega)
  by_cases hg : guS P.gu se (r 104) = 0
  · rw [if_pos hg, if_pos hg]
    exact ⟨e1, hmono (by omega) g1, fun k hk => if_neg (by omega)⟩
  rw [if_neg hg, if_neg hg]
  have s2 := step_eq ok (e := eW (r1M P b r 104) b) (F := mvS F (tS P (eW (r 104) b) F W 1) (nxS (nI P.wd) (nI P.rw) b) 40) (W := W) (b := b) (B := 80 * 99) (by omega) g1 e1 (fun c hc l => by rw [hW c hc l]; exact (if_neg (by omega)).symm)
  rw [h104] at s2
  refine ⟨fun k hk => ?_, hmono (by omega) (r1_fg ok (b := b) (B := 80 * 99) (by omega) g1), fun k hk => ?_⟩
  · rw [s2.1 k hk]
    show _ = r1M P b (r1M P b r) k
    rw [show r1M P b (r1M P b r) k = stY (tM P (eW (r1M P b r 104) b) (r1M P b r) 1) (nxS (nI P.wd) (nI P.rw) b) P.wd (r1M P b r) P.rw k from if_pos hk, h104]
  · rw [show r1M P b (r1M P b r) k = r1M P b r k from if_neg (by omega)]
    exact if_neg (by omega)
/-- the reference's hour of a row in order -/
theorem hr_ok {P : Pl} (ok : PlOk P) {r : Nat → Int32} {se la : Int32} {M : Nat} (hM : M < 2 ^ 20) (hr : RoOk P M r) : RoOk P (M + 1) (hrM P la se r) := by
  obtain ⟨hf, hw, hs, t, ht, et⟩ := hr
  have f1 := f1_eq ok (F := r) (W := fun c => r (40 + c)) (se := se) hf (fun _ _ => rfl) (fun _ _ _ => rfl)
  unfold hrM
  generalize wM P (r 104) = b
  generalize f1M P se r = a at f1
  obtain ⟨-, hfa, hk⟩ := f1
  have ha104 : a 104 = r 104 := hk 104 (by omega)
  have h3 : RoOk P (M + 1) (r3M (r2M P b la a)) := by
    have e : ∀ k, k ≠ 104 → r3M (r2M P b la a) k = r2M P b la a k := fun k hk => if_neg hk
    refine ⟨⟨fun c hc => ?_, fun c hc l => ?_⟩, fun c hc l => ?_, fun h hh => ?_, t + 1, by omega, ?_⟩
    · rw [e c (by omega)]
      exact (th_eq ok (F := a) (W := fun c => a (40 + c)) (b := b) (la := la) (by omega) hfa (fun _ _ => rfl) (fun _ _ _ => rfl) hc).2
    · rw [e c (by omega), r2_f (Or.inr l)]; exact hfa.2 c hc l
    · rw [e _ (by omega), r2_f (Or.inl (by omega)), hk _ (by omega)]; exact hw c hc l
    · rw [e _ (by omega), r2_f (Or.inl (by omega)), hk _ (by omega)]; exact hs h hh
    · show upd _ 104 _ 104 = _
      rw [upd, if_pos rfl, r2_f (Or.inl (by omega)), ha104, et, nI_add]
  generalize r3M (r2M P b la a) = c at h3
  split
  · obtain ⟨g1, g2, g3, g4⟩ := h3
    refine ⟨⟨fun k hk => ?_, fun k hk l => ?_⟩, fun k hk l => ?_, fun h hh => ?_, ?_⟩
    · rw [show r4M P P.hd c k = c k from if_neg (by omega)]; exact g1.1 k hk
    · rw [show r4M P P.hd c k = c k from if_neg (by omega)]; exact g1.2 k hk l
    · rw [show r4M P P.hd c (40 + k) = c (40 + k) from if_neg (by omega)]; exact g2 k hk l
    · by_cases q : h < P.hd
      · rw [show r4M P P.hd c (80 + h) = gvM P c (80 + h - 80) from if_pos ⟨by omega, by omega⟩]
        unfold gvM
        obtain ⟨z, hz, e, -⟩ := hl_nat (c (80 + (80 + h - 80)) + hlS (P.lw 3 (eG (c 104) (fgY c (fun k => c (40 + k)) (nI (80 + h - 80)) P.wd P.rw) (c (80 + (80 + h - 80))) (P.ra (80 + h - 80)) (80 + h - 80))) (nI 0) (nI 99)) (n := 999) (by omega)
        exact ⟨z, hz, e⟩
      · rw [show r4M P P.hd c (80 + h) = c (80 + h) from if_neg (by omega)]; exact g3 h hh
    · have hd := ok.2.2.1
      rw [show r4M P P.hd c 104 = c 104 from if_neg (by omega)]; exact g4
  · exact h3
