/-! the code of a sum: operators wait till what stands on their right is made; W: what waits, the newest first; C: the code -/
def rnk (k : Nat) : Nat := if k = 29 ∨ k = 30 then 2 else if k = 27 ∨ k = 28 then 1 else 0
def eOut (r : Nat) : List Nat → List (Nat × Nat) → List Nat × List (Nat × Nat)
  | [], C => ([], C)
  | k :: W, C => if r ≤ rnk k then eOut r W (C ++ [(k - 25, 0)]) else (k :: W, C)
/-- one token more: its kind, its number -/
def eTok (k v : Nat) (s : List Nat × List (Nat × Nat)) : List Nat × List (Nat × Nat) :=
  if k = 24 then (s.1, s.2 ++ [(0, v)]) else if 14 ≤ k ∧ k ≤ 22 then (s.1, s.2 ++ [(1, k - 14)]) else if k = 32 then (32 :: s.1, s.2) else if k = 33 then ((eOut 1 s.1 s.2).1.tail, (eOut 1 s.1 s.2).2) else if 0 < rnk k then (k :: (eOut (rnk k) s.1 s.2).1, (eOut (rnk k) s.1 s.2).2) else s
/-- what may wait: between two brackets the ranks fall -/
def eS : Nat → List Nat → Prop
  | _, [] => True
  | r, k :: W => (k = 32 ∧ eS 3 W) ∨ (0 < rnk k ∧ rnk k < r ∧ eS (rnk k) W)
/-- brackets, and operators, that wait -/
def nB : List Nat → Nat
  | [] => 0
  | k :: W => (if k = 32 then 1 else 0) + nB W
def nO : List Nat → Nat
  | [] => 0
  | k :: W => (if k = 32 then 0 else 1) + nO W
theorem rnk_32 : rnk 32 = 0 := by decide
theorem rnk_le (k : Nat) : rnk k ≤ 2 := by unfold rnk; split <;> (try split) <;> omega
theorem rnk_o {k : Nat} (h : 0 < rnk k) : 27 ≤ k ∧ k ≤ 30 := by
  unfold rnk at h
  by_cases a : k = 29 ∨ k = 30
  · omega
  · by_cases b : k = 27 ∨ k = 28
    · omega
    · rw [if_neg a, if_neg b] at h; omega
theorem rnk_p {k : Nat} (h : 27 ≤ k ∧ k ≤ 30) : 0 < rnk k := by
  unfold rnk
  by_cases a : k = 29 ∨ k = 30
  · rw [if_pos a]; omega
  · rw [if_neg a, if_pos (by omega)]; omega
theorem eS_mn {r q : Nat} : ∀ {W : List Nat}, eS r W → r ≤ q → eS q W
  | [], _, _ => True.intro
  | _ :: _, h, hq => h.elim (fun a => Or.inl a) (fun a => Or.inr ⟨a.1, by omega, a.2.2⟩)
theorem w_len : ∀ (W : List Nat) (r : Nat), 0 < r → eS r W → W.length + 1 ≤ r + 3 * nB W
  | [], r, hr, _ => by show 0 + 1 ≤ r + 3 * 0; omega
  | k :: W, r, hr, h => by
    rcases h with ⟨e, h⟩ | ⟨h1, h2, h3⟩
    · have := w_len W 3 (by omega) h
      show W.length + 1 + 1 ≤ r + 3 * ((if k = 32 then 1 else 0) + nB W)
      rw [if_pos e]; omega
    · have := w_len W (rnk k) h1 h3
      have e : ¬ k = 32 := fun z => by rw [z, rnk_32] at h1; omega
      show W.length + 1 + 1 ≤ r + 3 * ((if k = 32 then 1 else 0) + nB W)
      rw [if_neg e]; omega
theorem w_no : ∀ (W : List Nat), W.length = nB W + nO W
  | [] => rfl
  | k :: W => by
    have := w_no W
    show W.length + 1 = ((if k = 32 then 1 else 0) + nB W) + ((if k = 32 then 0 else 1) + nO W)
    by_cases e : k = 32
    · rw [if_pos e, if_pos e]; omega
    · rw [if_neg e, if_neg e]; omega
/-- what comes out leaves what may wait below rank r, and as many brackets -/
theorem eOut_w {r : Nat} (hr : 0 < r) : ∀ (W : List Nat) (C : List (Nat × Nat)) (q : Nat), eS q W → eS r (eOut r W C).1 ∧ nB (eOut r W C).1 = nB W ∧ nO (eOut r W C).1 ≤ nO W
  | [], _, _, _ => ⟨True.intro, rfl, Nat.le_refl _⟩
  | k :: W, C, q, h => by
    unfold eOut
    by_cases a : r ≤ rnk k
    · rw [if_pos a]
      have e : ¬ k = 32 := fun z => by rw [z, rnk_32] at a; omega
      rcases h with ⟨z, _⟩ | ⟨_, _, h3⟩
      · exact absurd z e
      · have := eOut_w hr W (C ++ [(k - 25, 0)]) _ h3
        refine ⟨this.1, this.2.1.trans ?_, Nat.le_trans this.2.2 ?_⟩
        · show nB W = (if k = 32 then 1 else 0) + nB W
          rw [if_neg e]; omega
        · show nO W ≤ (if k = 32 then 0 else 1) + nO W
          omega
    · rw [if_neg a]
      refine ⟨?_, rfl, Nat.le_refl _⟩
      rcases h with ⟨z, h⟩ | ⟨h1, _, h3⟩
      · exact Or.inl ⟨z, h⟩
      · exact Or.inr ⟨h1, by omega, h3⟩
theorem eS_1 {W : List Nat} (h : eS 1 W) : W = [] ∨ ∃ T, W = 32 :: T ∧ eS 3 T := by
  cases W with
  | nil => exact Or.inl rfl
  | cons k W =>
    rcases h with ⟨z, h⟩ | ⟨h1, h2, _⟩
    · exact Or.inr ⟨W, by rw [z], h⟩
    · omega
/-- how many values lie there when the code C has run, from h values on; none: it takes too many -/
def hgt : Nat → List (Nat × Nat) → Option Nat
  | h, [] => some h
  | h, c :: C => if c.1 ≤ 1 then hgt (h + 1) C else if 2 ≤ h then hgt (h - 1) C else none
theorem hgt_app : ∀ (C D : List (Nat × Nat)) (h : Nat), hgt h (C ++ D) = (hgt h C).bind (fun g => hgt g D)
  | [], D, h => rfl
  | c :: C, D, h => by
    show (if c.1 ≤ 1 then hgt (h + 1) (C ++ D) else if 2 ≤ h then hgt (h - 1) (C ++ D) else none) = (if c.1 ≤ 1 then hgt (h + 1) C else if 2 ≤ h then hgt (h - 1) C else none).bind (fun g => hgt g D)
    by_cases a : c.1 ≤ 1
    · rw [if_pos a, if_pos a]; exact hgt_app C D (h + 1)
    · rw [if_neg a, if_neg a]
      by_cases b : 2 ≤ h
      · rw [if_pos b, if_pos b]; exact hgt_app C D (h - 1)
      · rw [if_neg b, if_neg b]; rfl
/-- when a value more lies there than operators wait, all that comes out finds its two values -/
theorem eOut_h {r : Nat} (hr : 0 < r) : ∀ (W : List Nat) (C : List (Nat × Nat)) (q : Nat), eS q W → hgt 0 C = some (nO W + 1) → hgt 0 (eOut r W C).2 = some (nO (eOut r W C).1 + 1)
  | [], _, _, _, h => h
  | k :: W, C, q, w, h => by
    unfold eOut
    by_cases a : r ≤ rnk k
    · rw [if_pos a]
      have e : ¬ k = 32 := fun z => by rw [z, rnk_32] at a; omega
      have ho := rnk_o (show 0 < rnk k by omega)
      rcases w with ⟨z, _⟩ | ⟨_, _, h3⟩
      · exact absurd z e
      · refine eOut_h hr W (C ++ [(k - 25, 0)]) _ h3 ?_
        rw [hgt_app, h]
        show hgt ((if k = 32 then 0 else 1) + nO W + 1) [(k - 25, 0)] = _
        rw [if_neg e]
        unfold hgt
        rw [if_neg (show ¬ k - 25 ≤ 1 by omega), if_pos (by omega)]
        show some (1 + nO W + 1 - 1) = some (nO W + 1)
        congr 1
        omega
    · rw [if_neg a]; exact h
