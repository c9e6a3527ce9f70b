/-- what holds of a draft in which nothing is wrong -/
def NmO (l : List Nat) : Prop := ltO l ∧ 0 < l.length ∧ l.length ≤ 8
def DrO (D : Dr) : Prop := D.n 0 ≤ 8 ∧ (D.n 0 = 0 ↔ D.n 1 = 0) ∧ (∃ q, q ≤ 99 ∧ D.i 1 = nI q) ∧ (∀ h, D.n 2 ≤ h → h < 4 → D.i (10 + h) = nI 0 ∧ D.i (20 + h) = nI 0) ∧ (∀ h, h < D.n 2 → ∃ q, q ≤ 999 ∧ D.i (20 + h) = nI q) ∧ (∀ c, c < 40 → c % 8 < D.n 0 → c / 8 < D.n 1 → D.i (100 + c) = nI 9 ∨ ∃ h, h < 4 ∧ D.i (100 + c) = nI h) ∧ (∀ b, b < D.n 4 → D.bk b 0 ≤ 7 ∧ D.bk b 1 ≤ 4 ∧ D.bk b 2 ≤ 99) ∧ (∀ u, u < D.n 3 → ∃ h, h < D.n 2 ∧ D.i (30 + u) = nI h) ∧ (∀ k, k < 4 → (∀ c ∈ (D.l k).1, okB c) ∧ okC (D.l k).2) ∧ (∀ h, h < D.n 2 → NmO (D.nm 0 h)) ∧ ∀ u, u < D.n 3 → NmO (D.nm 1 u)
/-- counts as the grammar has them -/
def CnO (c : Nat → Nat) (D : Dr) : Prop := D.n 1 = c 0 ∧ D.n 2 = c 1 ∧ D.n 3 = c 2 ∧ D.n 4 = c 3 ∧ c 0 ≤ 5 ∧ c 1 ≤ 4 ∧ c 2 ≤ 6 ∧ c 3 ≤ 12
theorem drZ_ok : DrO drZ ∧ CnO (fun _ => 0) drZ := by
  refine ⟨⟨Nat.zero_le _, Iff.rfl, ⟨3, by decide, rfl⟩, fun h _ h4 => ⟨if_neg (by omega), if_neg (by omega)⟩, fun h hh => absurd hh (Nat.not_lt_zero h), fun c _ hc => absurd hc (Nat.not_lt_zero _), fun b hb => absurd hb (Nat.not_lt_zero b), fun u hu => absurd hu (Nat.not_lt_zero u), deL_ok, fun h hh => absurd hh (Nat.not_lt_zero h), fun u hu => absurd hu (Nat.not_lt_zero u)⟩, rfl, rfl, rfl, rfl, by decide, by decide, by decide, by decide⟩
/-- a tell that the grammar lets pass: its tokens, where the next begins -/
def teO (K : Nat → Nat) (c : Nat → Nat) (k p r : Nat) : Prop := p < 400 ∧ r ≤ 400 ∧ ((k = 0 ∧ c 0 < 5 ∧ K (p + 1) = 23 ∧ K (p + 2) = 25 ∧ r = p + 3) ∨ (k = 1 ∧ c 1 < 4 ∧ K (p + 1) = 23 ∧ K (p + 2) = 24 ∧ K (p + 3) = 24 ∧ K (p + 4) = 25 ∧ r = p + 5) ∨ (k = 2 ∧ c 2 < 6 ∧ K (p + 1) = 23 ∧ K (p + 2) = 23 ∧ K (p + 3) = 24 ∧ K (p + 4) = 24 ∧ K (p + 5) = 24 ∧ K (p + 6) = 25 ∧ r = p + 7) ∨ (k = 3 ∧ c 3 < 12 ∧ K (p + 1) = 24 ∧ K (p + 2) = 24 ∧ K (p + 3) = 24 ∧ K (p + 4) = 25 ∧ r = p + 5) ∨ ((4 ≤ k ∧ k ≤ 7) ∧ K (p + 1) = 26 ∧ p + 1 < 400 ∧ ∃ b q, gIfs K 400 1 (0, p + 2) = (0, b) ∧ gS K (0, b) = (0, q) ∧ K q = 25 ∧ q < 400 ∧ r = q + 1) ∨ ((k = 8 ∨ k = 9 ∨ k = 10) ∧ K (p + 1) = 24 ∧ K (p + 2) = 25 ∧ r = p + 3))
theorem gMany_z {K : Nat → Nat} {k : Nat} : ∀ (w : Nat) (s : Nat × Nat), (gMany K k w s).1 = 0 → s.1 = 0
  | 0, _, h => h
  | w + 1, s, h => gMany_z w s (gTk_z h).1
theorem gIfs_z {K : Nat → Nat} {n c : Nat} {s : Nat × Nat} (h : (gIfs K n c s).1 = 0) : s.1 = 0 := by
  by_cases a : s.1 = 0
  · exact a
  · rw [gIfs_f a] at h; exact absurd h a
theorem gCn_z {k : Nat} {c : Nat → Nat} {s : Nat × Nat} (h : (gCn k c s).1 = 0) : gCn k c s = s ∧ ¬ (k ≤ 3 ∧ moO k < c k + 1) := by
  unfold gCn at h ⊢
  by_cases a : k ≤ 3 ∧ moO k < c k + 1
  · rw [if_pos a] at h
    unfold gFl at h
    by_cases b : s.1 ≠ 0
    · rw [if_pos b] at h; exact absurd h b
    · rw [if_neg b] at h; exact absurd h (Nat.succ_ne_zero 1)
  · rw [if_neg a]; exact ⟨rfl, a⟩
theorem te_i {K : Nat → Nat} {c : Nat → Nat} {k p : Nat} (hk : K p = k) (h : (gTell K c k (0, p)).1 = 0) : k ≤ 10 ∧ teO K c k p (gTell K c k (0, p)).2 ∧ gTell K c k (0, p) = (0, (gTell K c k (0, p)).2) := by
  suffices hs : k ≤ 10 ∧ teO K c k p (gTell K c k (0, p)).2 from ⟨hs.1, hs.2, pr_z h⟩
  by_cases k10 : 10 < k
  · unfold gTell at h
    rw [if_pos k10] at h
    exact absurd h (Nat.succ_ne_zero 0)
  refine ⟨by omega, ?_⟩
  unfold gTell at h ⊢
  rw [if_neg k10] at h ⊢
  by_cases kl : 4 ≤ k ∧ k ≤ 7
  · rw [if_pos kl] at h ⊢
    obtain ⟨z1, z2, z3, z4⟩ := gTk_z h
    unfold gLaw at z1 z2 z3 z4 h ⊢
    have y1 := gS_z z1
    have y2 := gTk_z (gIfs_z y1)
    have y3 := gTk_z y2.1
    have y4 := gCn_z y3.1
    have e1 : gTk K k (gCn k c (0, p)) = (0, p + 1) := by rw [y3.2.2.2, y4.1]
    rw [e1] at y2 y1 z1 z2 z3 z4 h ⊢
    have e2 : gTk K 26 (0, p + 1) = (0, p + 2) := y2.2.2.2
    rw [e2] at y1 z1 z2 z3 z4 h ⊢
    have hp : p < 400 := by have := y3.2.2.1; rw [y4.1] at this; exact this
    refine ⟨hp, by rw [z4]; exact z3, Or.inr (Or.inr (Or.inr (Or.inr (Or.inl ⟨kl, y2.2.1, y2.2.2.1, (gIfs K 400 1 (0, p + 2)).2, (gS K (gIfs K 400 1 (0, p + 2))).2, pr_z y1, ?_, z2, z3, by rw [z4]⟩))))⟩
    rw [← pr_z y1]
    exact pr_z z1
  · rw [if_neg kl] at h ⊢
    have hc : ∀ s : Nat × Nat, (gTk K k (gCn k c s)).1 = 0 → s = (0, p) → gTk K k (gCn k c s) = (0, p + 1) ∧ p < 400 ∧ ¬ (k ≤ 3 ∧ moO k < c k + 1) := by
      intro s q e
      subst e
      have a := gTk_z q
      have b := gCn_z a.1
      rw [b.1] at a
      exact ⟨by rw [b.1]; exact a.2.2.2, a.2.2.1, b.2⟩
    have h0 := gMany_z _ _ (gMany_z _ _ (gTk_z h).1)
    obtain ⟨e0, hp, hcn⟩ := hc _ h0 rfl
    rw [e0] at h ⊢
    rcases (show k = 0 ∨ k = 1 ∨ k = 2 ∨ k = 3 ∨ k = 8 ∨ k = 9 ∨ k = 10 by omega) with rfl | rfl | rfl | rfl | rfl | rfl | rfl
    · change (gTk K 25 (gTk K 23 (0, p + 1))).1 = 0 at h
      change teO K c 0 p (gTk K 25 (gTk K 23 (0, p + 1))).2
      have a1 := gTk_z h
      have a2 := gTk_z a1.1
      rw [a2.2.2.2] at a1 ⊢
      rw [a1.2.2.2]
      refine ⟨hp, a1.2.2.1, Or.inl ⟨rfl, ?_, a2.2.1, a1.2.1, rfl⟩⟩
      have : moO 0 = 5 := rfl
      omega
    · change (gTk K 25 (gTk K 24 (gTk K 24 (gTk K 23 (0, p + 1))))).1 = 0 at h
      change teO K c 1 p (gTk K 25 (gTk K 24 (gTk K 24 (gTk K 23 (0, p + 1))))).2
      have a1 := gTk_z h
      have a2 := gTk_z a1.1
      have a3 := gTk_z a2.1
      have a4 := gTk_z a3.1
      rw [a4.2.2.2] at a1 a2 a3 ⊢
      rw [a3.2.2.2] at a1 a2 ⊢
      rw [a2.2.2.2] at a1 ⊢
      rw [a1.2.2.2]
      refine ⟨hp, a1.2.2.1, Or.inr (Or.inl ⟨rfl, ?_, a4.2.1, a3.2.1, a2.2.1, a1.2.1, rfl⟩)⟩
      have : moO 1 = 4 := rfl
      omega
    · change (gTk K 25 (gTk K 24 (gTk K 24 (gTk K 24 (gTk K 23 (gTk K 23 (0, p + 1))))))).1 = 0 at h
      change teO K c 2 p (gTk K 25 (gTk K 24 (gTk K 24 (gTk K 24 (gTk K 23 (gTk K 23 (0, p + 1))))))).2
      have a1 := gTk_z h
      have a2 := gTk_z a1.1
      have a3 := gTk_z a2.1
      have a4 := gTk_z a3.1
      have a5 := gTk_z a4.1
      have a6 := gTk_z a5.1
      rw [a6.2.2.2] at a1 a2 a3 a4 a5 ⊢
      rw [a5.2.2.2] at a1 a2 a3 a4 ⊢
      rw [a4.2.2.2] at a1 a2 a3 ⊢
      rw [a3.2.2.2] at a1 a2 ⊢
      rw [a2.2.2.2] at a1 ⊢
      rw [a1.2.2.2]
      refine ⟨hp, a1.2.2.1, Or.inr (Or.inr (Or.inl ⟨rfl, ?_, a6.2.1, a5.2.1, a4.2.1, a3.2.1, a2.2.1, a1.2.1, rfl⟩))⟩
      have : moO 2 = 6 := rfl
      omega
    · change (gTk K 25 (gTk K 24 (gTk K 24 (gTk K 24 (0, p + 1))))).1 = 0 at h
      change teO K c 3 p (gTk K 25 (gTk K 24 (gTk K 24 (gTk K 24 (0, p + 1))))).2
      have a1 := gTk_z h
      have a2 := gTk_z a1.1
      have a3 := gTk_z a2.1
      have a4 := gTk_z a3.1
      rw [a4.2.2.2] at a1 a2 a3 ⊢
      rw [a3.2.2.2] at a1 a2 ⊢
      rw [a2.2.2.2] at a1 ⊢
      rw [a1.2.2.2]
      refine ⟨hp, a1.2.2.1, Or.inr (Or.inr (Or.inr (Or.inl ⟨rfl, ?_, a4.2.1, a3.2.1, a2.2.1, a1.2.1, rfl⟩)))⟩
      have : moO 3 = 12 := rfl
      omega
    · change (gTk K 25 (gTk K 24 (0, p + 1))).1 = 0 at h
      change teO K c 8 p (gTk K 25 (gTk K 24 (0, p + 1))).2
      have a1 := gTk_z h
      have a2 := gTk_z a1.1
      rw [a2.2.2.2] at a1 ⊢
      rw [a1.2.2.2]
      exact ⟨hp, a1.2.2.1, Or.inr (Or.inr (Or.inr (Or.inr (Or.inr ⟨by omega, a2.2.1, a1.2.1, rfl⟩))))⟩
    · change (gTk K 25 (gTk K 24 (0, p + 1))).1 = 0 at h
      change teO K c 9 p (gTk K 25 (gTk K 24 (0, p + 1))).2
      have a1 := gTk_z h
      have a2 := gTk_z a1.1
      rw [a2.2.2.2] at a1 ⊢
      rw [a1.2.2.2]
      exact ⟨hp, a1.2.2.1, Or.inr (Or.inr (Or.inr (Or.inr (Or.inr ⟨by omega, a2.2.1, a1.2.1, rfl⟩))))⟩
    · change (gTk K 25 (gTk K 24 (0, p + 1))).1 = 0 at h
      change teO K c 10 p (gTk K 25 (gTk K 24 (0, p + 1))).2
      have a1 := gTk_z h
      have a2 := gTk_z a1.1
      rw [a2.2.2.2] at a1 ⊢
      rw [a1.2.2.2]
      exact ⟨hp, a1.2.2.1, Or.inr (Or.inr (Or.inr (Or.inr (Or.inr ⟨by omega, a2.2.1, a1.2.1, rfl⟩))))⟩
