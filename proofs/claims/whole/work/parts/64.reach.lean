/-! ways over cells: what is reached in so many steps, and whether the two are cut from each other -/
def wR (S : Nat → Prop) (f : Nat) : Nat → Nat → Prop
  | 0 => fun c => c = f ∧ S f
  | n + 1 => fun c => nbr (wR S f n) c ∧ S c
def Cut (S : Nat → Prop) (f g : Nat) : Prop := ∀ n, ¬ wR S f n g
theorem wR_S {S : Nat → Prop} {f : Nat} : ∀ n c, wR S f n c → S c
  | 0, c, h => by rw [h.1]; exact h.2
  | n + 1, c, h => h.2
theorem wR_up {S : Nat → Prop} {f n c : Nat} (h : wR S f n c) : wR S f (n + 1) c := ⟨Or.inl h, wR_S n c h⟩
theorem wR_le {S : Nat → Prop} {f n c : Nat} (h : wR S f n c) : ∀ k, wR S f (n + k) c
  | 0 => h
  | k + 1 => wR_up (wR_le h k)
theorem wR_fix {S : Nat → Prop} {f n : Nat} (h : ∀ c, wR S f (n + 1) c ↔ wR S f n c) : ∀ k c, wR S f (n + k) c ↔ wR S f n c
  | 0, c => Iff.rfl
  | k + 1, c => by
    refine Iff.trans ?_ (h c)
    show (nbr (wR S f (n + k)) c ∧ S c) ↔ (nbr (wR S f n) c ∧ S c)
    rw [nbr_c (wR_fix h k)]
theorem wR_cut {S : Nat → Prop} {f g n : Nat} (h : ∀ c, wR S f (n + 1) c ↔ wR S f n c) (hg : ¬ wR S f n g) : Cut S f g := fun k hk => by
  by_cases q : k ≤ n
  · refine hg ?_
    have := wR_le hk (n - k)
    rwa [show k + (n - k) = n by omega] at this
  · refine hg ((wR_fix h (k - n) g).mp ?_)
    rwa [show n + (k - n) = k by omega]
theorem wR_c {S S' : Nat → Prop} {f : Nat} (h : ∀ c, S c ↔ S' c) : ∀ n c, wR S f n c ↔ wR S' f n c
  | 0, c => by show (c = f ∧ S f) ↔ (c = f ∧ S' f); rw [h f]
  | n + 1, c => by
    show (nbr (wR S f n) c ∧ S c) ↔ (nbr (wR S' f n) c ∧ S' c)
    rw [nbr_c (wR_c h n), h c]
theorem Cut_c {S S' : Nat → Prop} {f g : Nat} (h : ∀ c, S c ↔ S' c) : Cut S f g ↔ Cut S' f g :=
  ⟨fun q n z => q n ((wR_c h n g).mpr z), fun q n z => q n ((wR_c h n g).mp z)⟩
theorem cnt_mono {p q : Nat → Prop} (h : ∀ c, p c → q c) : ∀ n, cnt p n ≤ cnt q n
  | 0 => Nat.le_refl _
  | n + 1 => by
    have ih := cnt_mono h n
    by_cases a : p n
    · rw [cnt_t a, cnt_t (h n a)]; omega
    · rw [cnt_f a]
      by_cases b : q n
      · rw [cnt_t b]; omega
      · rw [cnt_f b]; exact ih
theorem cnt_lt {p q : Nat → Prop} (h : ∀ c, p c → q c) {k : Nat} (h1 : q k) (h2 : ¬ p k) : ∀ n, k < n → cnt p n < cnt q n
  | 0, z => absurd z (Nat.not_lt_zero k)
  | n + 1, z => by
    by_cases e : k = n
    · subst e
      rw [cnt_f h2, cnt_t h1]
      have := cnt_mono h k
      omega
    · have ih := cnt_lt h h1 h2 n (by omega)
      by_cases a : p n
      · rw [cnt_t a, cnt_t (h n a)]; omega
      · rw [cnt_f a]
        by_cases b : q n
        · rw [cnt_t b]; omega
        · rw [cnt_f b]; exact ih
theorem cnt_full {p : Nat → Prop} : ∀ n, n ≤ cnt p n → ∀ c, c < n → p c
  | 0, _, c, h => absurd h (Nat.not_lt_zero c)
  | n + 1, z, c, h => by
    have q := cnt_le (p := p) n
    by_cases a : p n
    · rw [cnt_t a] at z
      by_cases e : c = n
      · rw [e]; exact a
      · exact cnt_full n (by omega) c (by omega)
    · rw [cnt_f a] at z; omega
theorem wR_grow {S : Nat → Prop} {f n : Nat} (hS : ∀ c, S c → c < 40) (h : ¬ ∀ c, wR S f (n + 1) c ↔ wR S f n c) (k : n ≤ cnt (wR S f n) 40) : n + 1 ≤ cnt (wR S f (n + 1)) 40 := by
  have e : ∃ c, wR S f (n + 1) c ∧ ¬ wR S f n c := Classical.byContradiction (fun q => h (fun c => ⟨fun z => Classical.byContradiction (fun y => q ⟨c, z, y⟩), wR_up⟩))
  obtain ⟨c, h1, h2⟩ := e
  have := cnt_lt (p := wR S f n) (q := wR S f (n + 1)) (fun c z => wR_up z) h1 h2 40 (hS c (wR_S _ _ h1))
  omega
/-- what one watches: none, one, two, three -/
def w0 : Nat → Prop := fun _ => False
def w1 (a : Nat) : Nat → Prop := fun c => c = a
def w2 (a b : Nat) : Nat → Prop := fun c => c = a ∨ c = b
def w3 (a b d : Nat) : Nat → Prop := fun c => (c = a ∨ c = b) ∨ c = d
def Gd (q : Nat → Prop) (f g : Nat) (w : Nat → Prop) : Prop := Cut (fun c => q c ∧ ¬ w c) f g
def may (q : Nat → Prop) (f g c : Nat) : Prop := (q c ∧ ¬ c = f) ∧ ¬ c = g
def F1 (q : Nat → Prop) (f g a : Nat) : Prop := (may q f g a ∧ Gd q f g (w1 a)) ∧ ∀ a', a' < a → may q f g a' → ¬ Gd q f g (w1 a')
def N1 (q : Nat → Prop) (f g : Nat) : Prop := ∀ a, may q f g a → ¬ Gd q f g (w1 a)
def T2 (q : Nat → Prop) (f g a b : Nat) : Prop := a < b ∧ may q f g a ∧ may q f g b ∧ Gd q f g (w2 a b)
def F2 (q : Nat → Prop) (f g a b : Nat) : Prop := T2 q f g a b ∧ ∀ a' b', a' < a ∨ (a' = a ∧ b' < b) → ¬ T2 q f g a' b'
def N2 (q : Nat → Prop) (f g : Nat) : Prop := ∀ a b, ¬ T2 q f g a b
def T3 (q : Nat → Prop) (f g a b d : Nat) : Prop := a < b ∧ b < d ∧ may q f g a ∧ may q f g b ∧ may q f g d ∧ Gd q f g (w3 a b d)
def F3 (q : Nat → Prop) (f g a b d : Nat) : Prop := T3 q f g a b d ∧ ∀ a' b' d', a' < a ∨ (a' = a ∧ (b' < b ∨ (b' = b ∧ d' < d))) → ¬ T3 q f g a' b' d'
def N3 (q : Nat → Prop) (f g : Nat) : Prop := ∀ a b d, ¬ T3 q f g a b d
def nm (c : Nat) : Nat := 10 * (c / 8) + c % 8
def pck (n : Nat) (w : Nat → Nat) (i : Int32) : Int32 := if i = -1 then nI n else if i < nI n then nI (nm (w i.toNatClampNeg)) else -1
def WaV (q : Nat → Prop) (f g : Nat) (i v : Int32) : Prop :=
  (Gd q f g w0 ∧ ∃ w, v = pck 0 w i) ∨
  (¬ Gd q f g w0 ∧ ∃ w, F1 q f g (w 0) ∧ v = pck 1 w i) ∨
  (¬ Gd q f g w0 ∧ N1 q f g ∧ ∃ w, F2 q f g (w 0) (w 1) ∧ v = pck 2 w i) ∨
  (¬ Gd q f g w0 ∧ N1 q f g ∧ N2 q f g ∧ ∃ w, F3 q f g (w 0) (w 1) (w 2) ∧ v = pck 3 w i) ∨
  (¬ Gd q f g w0 ∧ N1 q f g ∧ N2 q f g ∧ N3 q f g ∧ v = -2)
theorem F1_u {q : Nat → Prop} {f g a b : Nat} (h : F1 q f g a) (k : F1 q f g b) : a = b := by
  have x : ¬ b < a := fun z => h.2 b z k.1.1 k.1.2
  have y : ¬ a < b := fun z => k.2 a z h.1.1 h.1.2
  omega
theorem F2_u {q : Nat → Prop} {f g a b a' b' : Nat} (h : F2 q f g a b) (k : F2 q f g a' b') : a = a' ∧ b = b' := by
  have x : ¬ (a' < a ∨ (a' = a ∧ b' < b)) := fun z => h.2 a' b' z k.1
  have y : ¬ (a < a' ∨ (a = a' ∧ b < b')) := fun z => k.2 a b z h.1
  omega
theorem F3_u {q : Nat → Prop} {f g a b d a' b' d' : Nat} (h : F3 q f g a b d) (k : F3 q f g a' b' d') : a = a' ∧ b = b' ∧ d = d' := by
  have x : ¬ (a' < a ∨ (a' = a ∧ (b' < b ∨ (b' = b ∧ d' < d)))) := fun z => h.2 a' b' d' z k.1
  have y : ¬ (a < a' ∨ (a = a' ∧ (b < b' ∨ (b = b' ∧ d < d')))) := fun z => k.2 a b d z h.1
  omega
theorem pck_c {n : Nat} {w w' : Nat → Nat} {i : Int32} (hn : n ≤ 3) (hi : i = -1 ∨ ∃ j, j ≤ 2 ∧ i = nI j) (h : ∀ j, j < n → w j = w' j) : pck n w i = pck n w' i := by
  unfold pck
  rcases hi with e | ⟨j, hj, e⟩
  · rw [if_pos e, if_pos e]
  · by_cases h1 : i = -1
    · rw [if_pos h1, if_pos h1]
    · rw [if_neg h1, if_neg h1]
      by_cases h2 : i < nI n
      · rw [if_pos h2, if_pos h2]
        rw [e, nI_ltI (by omega) (by omega)] at h2
        rw [e, nI_clamp (by omega), h j h2]
      · rw [if_neg h2, if_neg h2]
theorem WaV_u {q : Nat → Prop} {f g : Nat} {i v v' : Int32} (hi : i = -1 ∨ ∃ j, j ≤ 2 ∧ i = nI j) (h : WaV q f g i v) (k : WaV q f g i v') : v = v' := by
  rcases h with ⟨h0, w, e⟩ | ⟨h0, w, h1, e⟩ | ⟨h0, h1, w, h2, e⟩ | ⟨h0, h1, h2, w, h3, e⟩ | ⟨h0, h1, h2, h3, e⟩ <;>
  rcases k with ⟨k0, w', e'⟩ | ⟨k0, w', k1, e'⟩ | ⟨k0, k1, w', k2, e'⟩ | ⟨k0, k1, k2, w', k3, e'⟩ | ⟨k0, k1, k2, k3, e'⟩
  · rw [e, e']; exact pck_c (by decide) hi (fun j hj => absurd hj (Nat.not_lt_zero j))
  · exact absurd h0 k0
  · exact absurd h0 k0
  · exact absurd h0 k0
  · exact absurd h0 k0
  · exact absurd k0 h0
  · rw [e, e']
    refine pck_c (by decide) hi (fun j hj => ?_)
    rw [show j = 0 by omega]; exact F1_u h1 k1
  · exact absurd h1.1.2 (k1 _ h1.1.1)
  · exact absurd h1.1.2 (k1 _ h1.1.1)
  · exact absurd h1.1.2 (k1 _ h1.1.1)
  · exact absurd k0 h0
  · exact absurd k1.1.2 (h1 _ k1.1.1)
  · rw [e, e']
    have u := F2_u h2 k2
    refine pck_c (by decide) hi (fun j hj => ?_)
    rcases (show j = 0 ∨ j = 1 by omega) with rfl | rfl
    · exact u.1
    · exact u.2
  · exact absurd h2.1 (k2 _ _)
  · exact absurd h2.1 (k2 _ _)
  · exact absurd k0 h0
  · exact absurd k1.1.2 (h1 _ k1.1.1)
  · exact absurd k2.1 (h2 _ _)
  · rw [e, e']
    have u := F3_u h3 k3
    refine pck_c (by decide) hi (fun j hj => ?_)
    rcases (show j = 0 ∨ j = 1 ∨ j = 2 by omega) with rfl | rfl | rfl
    · exact u.1
    · exact u.2.1
    · exact u.2.2
  · exact absurd h3.1 (k3 _ _ _)
  · exact absurd k0 h0
  · exact absurd k1.1.2 (h1 _ k1.1.1)
  · exact absurd k2.1 (h2 _ _)
  · exact absurd k3.1 (h3 _ _ _)
  · rw [e, e']
