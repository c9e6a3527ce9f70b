/-! WHAT A TEXT TELLS, as it is drafted: counts, ints, names, banks, laws; and the first that is wrong in it -/
abbrev Dr : Type := (Nat → Nat) × (Nat → Int32) × (Nat → Nat → List Nat) × (Nat → Nat → Nat) × (Nat → List Br × Cs)
abbrev Dr.n (D : Dr) : Nat → Nat := D.1
abbrev Dr.i (D : Dr) : Nat → Int32 := D.2.1
abbrev Dr.nm (D : Dr) : Nat → Nat → List Nat := D.2.2.1
abbrev Dr.bk (D : Dr) : Nat → Nat → Nat := D.2.2.2.1
abbrev Dr.l (D : Dr) : Nat → List Br × Cs := D.2.2.2.2
/-- the first wrong is kept: its fault, its token -/
noncomputable def wq (c : Prop) (k j : Nat) (w : Nat × Nat) : Nat × Nat := pit (c ∧ w.1 = 0) (k, j) w
theorem wq_t {c : Prop} {k j : Nat} {w : Nat × Nat} (h : c) (h0 : w.1 = 0) : wq c k j w = (k, j) := pit_t ⟨h, h0⟩
theorem wq_n {c : Prop} {k j : Nat} {w : Nat × Nat} (h : ¬ c) : wq c k j w = w := pit_f (fun q => h q.1)
theorem wq_s {c : Prop} {k j : Nat} {w : Nat × Nat} (h : w.1 ≠ 0) : wq c k j w = w := pit_f (fun q => h q.2)
theorem wq_z {c : Prop} {k j : Nat} {w : Nat × Nat} (hk : k ≠ 0) (h : (wq c k j w).1 = 0) : ¬ c ∧ w.1 = 0 := by
  by_cases h0 : w.1 = 0
  · by_cases hc : c
    · rw [wq_t hc h0] at h
      exact absurd h hk
    · exact ⟨hc, h0⟩
  · rw [wq_s h0] at h
    exact absurd h h0
theorem wq_e {c d : Prop} {k j : Nat} {w : Nat × Nat} (h : c ↔ d) : wq c k j w = wq d k j w := by rw [propext h]
/-- the width behind a row of letters l -/
def rwW (D : Dr) (l : List Nat) : Nat := if D.n 1 = 0 then l.length else D.n 0
def rwO (D : Dr) (l : List Nat) : Prop := l.length = rwW D l ∧ ∀ c ∈ l, c ≤ 4 ∨ c = 15
def rwC (c : Nat) : Int32 := if c = 15 then nI 9 else nI c - nI 1
def rwD (D : Dr) (l : List Nat) : Dr := (va_up (va_up D.n 0 (rwW D l)) 1 (D.n 1 + 1), fun k => if 100 + 8 * D.n 1 ≤ k ∧ k < 100 + 8 * D.n 1 + l.length then rwC (l.getD (k - (100 + 8 * D.n 1)) 0) else D.i k, D.nm, D.bk, D.l)
/-- a name that is told -/
def seen (D : Dr) (l : List Nat) : Prop := (∃ h, h < D.n 2 ∧ D.nm 0 h = l) ∨ ∃ u, u < D.n 3 ∧ D.nm 1 u = l
noncomputable def fnd (D : Dr) (l : List Nat) : Nat := enF (fun h => h < D.n 2 ∧ ¬ D.nm 0 h = l) (D.n 2) 0
def hoD (D : Dr) (l : List Nat) (v w : Nat) : Dr := (va_up D.n 2 (D.n 2 + 1), va_up (va_up D.i (10 + D.n 2) (nI v)) (20 + D.n 2) (nI w), va_up D.nm 0 (va_up (D.nm 0) (D.n 2) l), D.bk, D.l)
noncomputable def usD (D : Dr) (l j : List Nat) (v w x : Nat) : Dr := (va_up D.n 3 (D.n 3 + 1), va_up (va_up (va_up (va_up D.i (30 + D.n 3) (if fnd D j < D.n 2 then nI (fnd D j) else -1)) (40 + D.n 3) (nI v)) (50 + D.n 3) (nI w)) (60 + D.n 3) (nI x), va_up D.nm 1 (va_up (D.nm 1) (D.n 3) l), D.bk, D.l)
def bkD (D : Dr) (x y f : Nat) : Dr := (va_up D.n 4 (D.n 4 + 1), D.i, D.nm, va_up D.bk (D.n 4) (fun q => if q = 0 then x else if q = 1 then y else f), D.l)
def inD (D : Dr) (k v : Nat) : Dr := (D.n, va_up D.i k (nI v), D.nm, D.bk, D.l)
def lwD (D : Dr) (k : Nat) (x : List Br × Cs) : Dr := (D.n, D.i, D.nm, D.bk, va_up D.l k x)
/-- one tell of kind k whose first token is p -/
noncomputable def teD (K V : Nat → Nat) (N : Nat → List Nat) (k p : Nat) (D : Dr) : Dr :=
  if k = 0 then rwD D (N (p + 1)) else if k = 1 then hoD D (N (p + 1)) (V (p + 2)) (V (p + 3)) else if k = 2 then usD D (N (p + 1)) (N (p + 2)) (V (p + 3)) (V (p + 4)) (V (p + 5)) else if k = 3 then bkD D (V (p + 1)) (V (p + 2)) (V (p + 3)) else if k = 8 then inD D 0 (V (p + 1)) else if k = 9 then inD D 1 (V (p + 1)) else if k = 10 then inD D 2 (V (p + 1)) else lwD D (k - 4) (laP K V (p + 2))
noncomputable def teW (V : Nat → Nat) (N : Nat → List Nat) (k p : Nat) (D : Dr) (w : Nat × Nat) : Nat × Nat :=
  if k = 0 then wq (¬ rwO D (N (p + 1))) 6 (p + 1) w else if k = 1 then wq (999 < V (p + 3)) 5 (p + 3) (wq (99 < V (p + 2)) 5 (p + 2) (wq (seen D (N (p + 1))) 3 (p + 1) w)) else if k = 2 then wq (V (p + 5) < 1 ∨ 99 < V (p + 5)) 5 (p + 5) (wq (V (p + 4) < V (p + 3) ∨ 23 < V (p + 4)) 5 (p + 4) (wq (23 < V (p + 3)) 5 (p + 3) (wq (¬ fnd D (N (p + 2)) < D.n 2) 4 (p + 2) (wq (seen D (N (p + 1))) 3 (p + 1) w)))) else if k = 3 then wq (99 < V (p + 3)) 5 (p + 3) (wq (4 < V (p + 2)) 5 (p + 2) (wq (7 < V (p + 1)) 5 (p + 1) w)) else if k = 8 then wq (100 < V (p + 1)) 5 (p + 1) w else if k = 9 then wq (99 < V (p + 1)) 5 (p + 1) w else if k = 10 then wq (9999 < V (p + 1)) 5 (p + 1) w else w
theorem teW_s {V : Nat → Nat} {N : Nat → List Nat} {k p : Nat} {D : Dr} {w : Nat × Nat} (h : w.1 ≠ 0) : teW V N k p D w = w := by
  unfold teW
  simp only [wq_s h, ite_self]
/-- all tells from token p on -/
noncomputable def dA (K V : Nat → Nat) (N : Nat → List Nat) : Nat → (Nat → Nat) → Nat → Dr → Nat × Nat → Dr × (Nat × Nat)
  | 0, _, _, D, w => (D, w)
  | f + 1, c, p, D, w => if K p = 34 then (D, w) else dA K V N f (gUp (K p) c) (gTell K c (K p) (0, p)).2 (teD K V N (K p) p D) (teW V N (K p) p D w)
theorem dA_s {K V : Nat → Nat} {N : Nat → List Nat} : ∀ (f : Nat) (c : Nat → Nat) (p : Nat) (D : Dr) (w : Nat × Nat), w.1 ≠ 0 → (dA K V N f c p D w).2 = w
  | 0, _, _, _, _, _ => rfl
  | f + 1, c, p, D, w, h => by
    rw [dA]
    by_cases e : K p = 34
    · rw [if_pos e]
    · rw [if_neg e, teW_s h]
      exact dA_s f _ _ _ w h
/-- the fog that banks told on cell c, the last n of them -/
def bfo (b : Nat → Nat → Nat) (c : Nat) : Nat → Nat
  | 0 => 0
  | n + 1 => if 8 * b n 1 + b n 0 = c then b n 2 else bfo b c n
/-- a draft as a plan -/
def plD (D : Dr) : Pl := (D.n, fun k => if 200 ≤ k then nI (bfo D.bk (k - 200) (D.n 4)) else D.i k, fun k v => lwP v (D.l k).1 (D.l k).2)
def deL (k : Nat) : List Br × Cs := ([], if k = 0 then [(0, 0)] else if k = 1 then [(1, 0), (0, 4), (5, 0)] else if k = 2 then [(0, 1)] else [(1, 7)])
/-- the empty draft -/
def drZ : Dr := (fun _ => 0, fun k => if k = 1 then nI 3 else nI 0, fun _ _ => [], fun _ _ => 0, deL)
/-- all lies on the land -/
def laO (D : Dr) : Prop := (∀ c, c < 40 → c % 8 < D.n 0 → c / 8 < D.n 1 → D.i (100 + c) = nI 9 ∨ ∃ h, h < D.n 2 ∧ D.i (100 + c) = nI h) ∧ ∀ b, b < D.n 4 → D.bk b 0 < D.n 0 ∧ D.bk b 1 < D.n 1
/-- the whole text: its draft, what is wrong; q: its end -/
noncomputable def dF (K V : Nat → Nat) (N : Nat → List Nat) : Dr × (Nat × Nat) := dA K V N 401 (fun _ => 0) 0 drZ (0, 0)
noncomputable def wF (D : Dr) (q : Nat) (w : Nat × Nat) : Nat × Nat := wq (¬ laO D) 6 q w
theorem deL_ok : ∀ k, k < 4 → (∀ c ∈ (deL k).1, okB c) ∧ okC (deL k).2 := by
  intro k hk
  refine ⟨fun c hc => (by cases hc), ?_⟩
  rcases (show k = 0 ∨ k = 1 ∨ k = 2 ∨ k = 3 by omega) with rfl | rfl | rfl | rfl
  · exact Or.inl ⟨rfl, by decide, by decide, rfl⟩
  · exact Or.inr (Or.inl ⟨rfl, by decide, by decide, Or.inl ⟨rfl, by decide, by decide, Or.inr (Or.inr ⟨by decide, ⟨by decide, rfl⟩, by decide, rfl⟩)⟩⟩)
  · exact Or.inl ⟨rfl, by decide, by decide, rfl⟩
  · exact Or.inr (Or.inl ⟨rfl, by decide, by decide, rfl⟩)
theorem deL_v : ∀ k, k < 4 → ∀ v, lwP v (deL k).1 (deL k).2 = dfl k v := by
  intro k hk v
  rcases (show k = 0 ∨ k = 1 ∨ k = 2 ∨ k = 3 by omega) with rfl | rfl | rfl | rfl
  · rfl
  · show (vaC v [(1, 0), (0, 4), (5, 0)]).getD (nI 0) = v 0 / nI 4
    unfold vaC
    rw [rnC_1 rfl, rnC_0 rfl, rnC_2 (by decide), if_neg (by rintro ⟨-, h⟩; exact absurd h (by decide))]
    show jo (nI 5) (v 0) (nI 4) = _
    unfold jo
    rw [if_neg (by decide), if_neg (by decide), if_neg (by decide), if_neg (by decide)]
  · rfl
  · rfl
