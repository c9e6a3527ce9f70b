/-! a law's value doesn't hang on what its pile held before, nor on more than nine variables -/
theorem anF_ind (code v v' : Nat → Int32) (hv : ∀ k, k < 9 → v k = v' k) : ∀ (f a t : Nat) (st st' : Nat → Int32), (∀ j, j < t → st j = st' j) → (anF code v f a t st).1 = (anF code v' f a t st').1 := by
  intro f
  induction f with
  | zero => intro a t st st' h; rfl
  | succ f ih =>
    intro a t st st' h
    rw [anF_s, anF_s]
    by_cases c1 : 420 ≤ a ∨ 24 ≤ t
    · rw [if_pos c1, if_pos c1]
    rw [if_neg c1, if_neg c1]
    by_cases c2 : code a >>> (nI 16 &&& 31) = 0
    · rw [if_pos c2, if_pos c2]
      refine ih _ _ _ _ (fun j hj => ?_)
      unfold upd
      by_cases e : j = t
      · rw [if_pos e, if_pos e]
      · rw [if_neg e, if_neg e]; exact h j (by omega)
    rw [if_neg c2, if_neg c2]
    by_cases c3 : code a >>> (nI 16 &&& 31) = nI 1
    · rw [if_pos c3, if_pos c3]
      refine ih _ _ _ _ (fun j hj => ?_)
      unfold upd
      by_cases e : j = t
      · rw [if_pos e, if_pos e]
        by_cases e2 : (code a).toBitVec.toNat % 2 ^ 16 < 9
        · rw [if_pos e2, if_pos e2, hv _ e2]
        · rw [if_neg e2, if_neg e2]
      · rw [if_neg e, if_neg e]; exact h j (by omega)
    rw [if_neg c3, if_neg c3]
    by_cases c4 : code a >>> (nI 16 &&& 31) = nI 7 ∨ t < 2
    · rw [if_pos c4, if_pos c4]
      by_cases c5 : t = 1
      · subst c5; exact h 0 (by omega)
      · show (if t = 1 then st 0 else nI 0) = (if t = 1 then st' 0 else nI 0)
        rw [if_neg c5, if_neg c5]
    rw [if_neg c4, if_neg c4]
    have ht : 2 ≤ t := by
      rcases Nat.lt_or_ge t 2 with q | q
      · exact absurd (Or.inr q) c4
      · exact q
    rw [h (t - 2) (by omega), h (t - 2 + 1) (by omega), h (t - 1) (by omega), h (t - 1 - 1) (by omega)]
    by_cases c5 : code a >>> (nI 16 &&& 31) = nI 6
    · rw [if_pos c5, if_pos c5]
      exact ih _ _ _ _ (fun j hj => h j (by omega))
    rw [if_neg c5, if_neg c5]
    by_cases c6 : code a >>> (nI 16 &&& 31) = nI 5 ∧ st' (t - 1) = 0
    · rw [if_pos c6, if_pos c6]
    rw [if_neg c6, if_neg c6]
    refine ih _ _ _ _ (fun j hj => ?_)
    unfold upd
    by_cases e : j = t - 1 - 1
    · rw [if_pos e, if_pos e]
    · rw [if_neg e, if_neg e]; exact h j (by omega)
/-- a text's plan: numbers, ints, laws -/
abbrev Pl : Type := (Nat → Nat) × (Nat → Int32) × (Nat → (Nat → Int32) → Int32)
abbrev Pl.wd (P : Pl) : Nat := P.1 0
abbrev Pl.rw (P : Pl) : Nat := P.1 1
abbrev Pl.hd (P : Pl) : Nat := P.1 2
abbrev Pl.us (P : Pl) : Nat := P.1 3
abbrev Pl.bk (P : Pl) : Nat := P.1 4
abbrev Pl.gu (P : Pl) : Int32 := P.2.1 0
abbrev Pl.le (P : Pl) : Int32 := P.2.1 1
abbrev Pl.se (P : Pl) : Int32 := P.2.1 2
abbrev Pl.ra (P : Pl) (h : Nat) : Int32 := P.2.1 (10 + h)
abbrev Pl.st (P : Pl) (h : Nat) : Int32 := P.2.1 (20 + h)
abbrev Pl.uo (P : Pl) (u : Nat) : Int32 := P.2.1 (30 + u)
abbrev Pl.uf (P : Pl) (u : Nat) : Int32 := P.2.1 (40 + u)
abbrev Pl.ut (P : Pl) (u : Nat) : Int32 := P.2.1 (50 + u)
abbrev Pl.uk (P : Pl) (u : Nat) : Int32 := P.2.1 (60 + u)
abbrev Pl.wh (P : Pl) (c : Nat) : Int32 := P.2.1 (100 + c)
abbrev Pl.fo (P : Pl) (c : Nat) : Int32 := P.2.1 (200 + c)
abbrev Pl.lw (P : Pl) (k : Nat) (v : Nat → Int32) : Int32 := P.2.2 k v
/-- a cell on the land -/
abbrev ld (P : Pl) (c : Nat) : Prop := c % 8 < P.wd ∧ c / 8 < P.rw
/-- what holds of every plan -/
def PlOk (P : Pl) : Prop := P.wd ≤ 8 ∧ P.rw ≤ 5 ∧ P.hd ≤ 4 ∧ P.us ≤ 6 ∧ P.bk ≤ 12 ∧ (∃ q, q ≤ 99 ∧ P.le = nI q) ∧ (∀ h, P.hd ≤ h → h < 4 → P.ra h = nI 0 ∧ P.st h = nI 0) ∧ (∀ h, h < P.hd → ∃ q, q ≤ 999 ∧ P.st h = nI q) ∧ (∀ c, c < 40 → ld P c → P.wh c = nI 9 ∨ ∃ h, h < P.hd ∧ P.wh c = nI h) ∧ (∀ c, c < 40 → ∃ q, q ≤ 99 ∧ P.fo c = nI q) ∧ (∀ u, u < P.us → ∃ h, h < P.hd ∧ P.uo u = nI h) ∧ (0 < P.wd ↔ 0 < P.rw) ∧ (∀ k v v', k < 4 → (∀ i, i < 9 → v i = v' i) → P.lw k v = P.lw k v')
/-- a Plan object at pl is the plan P: its laws -/
def LwC (m : Me) (pl : Nat) (P : Pl) : Prop := ∀ k, k < 4 → ∃ s, s < 2 ^ 30 ∧ gI m (pl + 11) k = nI s ∧ ∀ v, (anF (gI m (pl + 10)) v 420 s 0 (fun _ => nI 0)).1 = P.lw k v
/-- and its numbers -/
def PlC (m : Me) (pl : Nat) (P : Pl) : Prop := gI m pl 0 = nI P.wd ∧ gI m pl 1 = nI P.rw ∧ gI m pl 2 = nI P.hd ∧ gI m pl 3 = nI P.us ∧ gI m pl 4 = nI P.bk ∧ gI m pl 5 = P.gu ∧ gI m pl 6 = P.le ∧ gI m pl 7 = P.se ∧ (∀ c, c < 40 → gI m (pl + 1) c = if ld P c then P.wh c else -1) ∧ (∀ c, c < 40 → gI m (pl + 2) c = if ld P c then P.fo c else nI 0) ∧ (∀ h, h < 4 → gI m (pl + 3) h = P.ra h ∧ gI m (pl + 4) h = P.st h) ∧ (∀ u, u < P.us → gI m (pl + 5) u = P.uo u ∧ gI m (pl + 6) u = P.uf u ∧ gI m (pl + 7) u = P.ut u ∧ gI m (pl + 8) u = P.uk u) ∧ LwC m pl P
theorem LwC.keep {m m' : Me} {pl : Nat} {P : Pl} (h : LwC m pl P) (h1 : gI m' (pl + 10) = gI m (pl + 10)) (h2 : gI m' (pl + 11) = gI m (pl + 11)) : LwC m' pl P := by
  intro k hk
  obtain ⟨s, a, b, c⟩ := h k hk
  exact ⟨s, a, by rw [h2]; exact b, fun v => by rw [h1]; exact c v⟩
/-- the rows of a plan that its hours don't write -/
theorem PlC.keep {m m' : Me} {pl : Nat} {P : Pl} (h : PlC m pl P) (hk : ∀ x, pl ≤ x → x ≤ pl + 11 → x ≠ pl + 9 → gI m' x = gI m x) : PlC m' pl P := by
  obtain ⟨a0, a1, a2, a3, a4, a5, a6, a7, a8, a9, a10, a11, a12⟩ := h
  have e0 := hk pl (by omega) (by omega) (by omega)
  refine ⟨?_, ?_, ?_, ?_, ?_, ?_, ?_, ?_, ?_, ?_, ?_, ?_, a12.keep (hk _ (by omega) (by omega) (by omega)) (hk _ (by omega) (by omega) (by omega))⟩
  all_goals (try rw [e0])
  all_goals (try assumption)
  · rw [hk _ (by omega) (by omega) (by omega)]; exact a8
  · rw [hk _ (by omega) (by omega) (by omega)]; exact a9
  · rw [hk (pl + 3) (by omega) (by omega) (by omega), hk (pl + 4) (by omega) (by omega) (by omega)]; exact a10
  · rw [hk (pl + 5) (by omega) (by omega) (by omega), hk (pl + 6) (by omega) (by omega) (by omega), hk (pl + 7) (by omega) (by omega) (by omega), hk (pl + 8) (by omega) (by omega) (by omega)]; exact a11
/-- a law's value, out of a plan's laws -/
theorem ev_law {m : Me} {pl : Nat} {P : Pl} {k : Nat} (hp : Wf7 m.1 (gR m) pl) (hk : k < 4) (hL : LwC m pl P) : Ev mX5_answer [.ref (pl + 9), .int (nI k)] m (fun r m' => r = some (.int (P.lw k (gI m (pl + 12)))) ∧ ∃ z, m' = sI m (pl + 13) z) := by
  obtain ⟨s, h1, h2, h3⟩ := hL k hk
  refine (ev_answer (s := s) hp.w16 hk h2 h1).mono ?_
  rintro r m' ⟨rfl, rfl⟩
  refine ⟨?_, _, rfl⟩
  congr 2
  rw [← h3]
  exact anF_ind _ _ _ (fun _ _ => rfl) _ _ _ _ _ (fun j hj => absurd hj (Nat.not_lt_zero j))
