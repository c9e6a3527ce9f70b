/-! THE TEXT, cut into tokens: as a function of its bytes -/
def isLt (c : Nat) : Prop := 97 ≤ c ∧ c ≤ 122
def isDg (c : Nat) : Prop := 48 ≤ c ∧ c ≤ 57
def isBk (c : Nat) : Prop := c = 9 ∨ c = 10 ∨ c = 13 ∨ c = 32
/-- a byte, read unsigned -/
def by8 (T : Nat → Int32) (i : Nat) : Nat := (T i &&& nI 255).toNatClampNeg
theorem and255 (x : Int32) : ∃ n, n < 256 ∧ x &&& nI 255 = nI n := by
  obtain ⟨q, hq, rfl⟩ := wb_of32 x
  refine ⟨q % 256, Nat.mod_lt _ (by decide), ?_⟩
  apply Int32.toBitVec_inj.mp
  rw [Int32.toBitVec_and]
  show BitVec.ofNat 32 q &&& BitVec.ofNat 32 255 = BitVec.ofNat 32 (q % 256)
  apply BitVec.eq_of_toNat_eq
  rw [BitVec.toNat_and, BitVec.toNat_ofNat, BitVec.toNat_ofNat, BitVec.toNat_ofNat, Nat.mod_eq_of_lt hq, show (255 : Nat) % 2 ^ 32 = 2 ^ 8 - 1 from rfl, Nat.and_two_pow_sub_one_eq_mod]
  rw [Nat.mod_eq_of_lt (show q % 256 < 2 ^ 32 by omega)]
theorem by8_e (T : Nat → Int32) (i : Nat) : T i &&& nI 255 = nI (by8 T i) ∧ by8 T i < 256 := by
  obtain ⟨n, hn, e⟩ := and255 (T i)
  unfold by8
  rw [e, nI_clamp (by omega)]
  exact ⟨rfl, hn⟩
noncomputable def enF (p : Nat → Prop) : Nat → Nat → Nat
  | 0, a => a
  | k + 1, a => pit (p a) (enF p k (a + 1)) a
def inP (B : Nat → Nat) (n : Nat) (q : Nat → Prop) (a : Nat) : Prop := a < n ∧ q (B a)
/-- where a run of such bytes ends -/
noncomputable def en (B : Nat → Nat) (n : Nat) (q : Nat → Prop) (a : Nat) : Nat := enF (inP B n q) (n - a) a
theorem enF_u {p : Nat → Prop} : ∀ k a e, a ≤ e → e ≤ a + k → (∀ i, a ≤ i → i < e → p i) → ¬ p e → enF p k a = e
  | 0, a, e, h1, h2, _, _ => by show a = e; omega
  | k + 1, a, e, h1, h2, h3, h4 => by
    show pit (p a) (enF p k (a + 1)) a = e
    by_cases q : a = e
    · subst q; rw [pit_f h4]
    · rw [pit_t (h3 a (Nat.le_refl a) (by omega))]
      exact enF_u k (a + 1) e (by omega) (by omega) (fun i hi => h3 i (by omega)) h4
theorem en_u {B : Nat → Nat} {n : Nat} {q : Nat → Prop} {a e : Nat} (h1 : a ≤ e) (h2 : ∀ i, a ≤ i → i < e → inP B n q i) (h3 : ¬ inP B n q e) : en B n q a = e := by
  refine enF_u _ _ _ h1 ?_ h2 h3
  by_cases z : e = a
  · omega
  · have := (h2 (e - 1) (by omega) (by omega)).1
    omega
theorem en_s {B : Nat → Nat} {n : Nat} {q : Nat → Prop} : ∀ k a, n - a = k → a ≤ n → a ≤ en B n q a ∧ en B n q a ≤ n ∧ (∀ i, a ≤ i → i < en B n q a → inP B n q i) ∧ ¬ inP B n q (en B n q a)
  | 0, a, h, h2 => by
    have e : en B n q a = a := en_u (Nat.le_refl a) (fun i h3 h4 => absurd h3 (by omega)) (fun z => by have := z.1; omega)
    rw [e]
    exact ⟨Nat.le_refl a, h2, fun i h3 h4 => absurd h3 (by omega), fun z => by have := z.1; omega⟩
  | k + 1, a, h, h2 => by
    by_cases z : inP B n q a
    · obtain ⟨i1, i2, i3, i4⟩ := en_s (B := B) (n := n) (q := q) k (a + 1) (by omega) (by have := z.1; omega)
      have e : en B n q a = en B n q (a + 1) := en_u (by omega) (fun i h3 h4 => by
        by_cases y : i = a
        · rw [y]; exact z
        · exact i3 i (by omega) h4) i4
      rw [e]
      exact ⟨by omega, i2, fun i h3 h4 => by
        by_cases y : i = a
        · rw [y]; exact z
        · exact i3 i (by omega) h4, i4⟩
    · have e : en B n q a = a := en_u (Nat.le_refl a) (fun i h3 h4 => absurd h3 (by omega)) z
      rw [e]
      exact ⟨Nat.le_refl a, h2, fun i h3 h4 => absurd h3 (by omega), z⟩
theorem en_ge {B : Nat → Nat} {n : Nat} {q : Nat → Prop} {a : Nat} (h : a ≤ n) : a ≤ en B n q a := (en_s _ a rfl h).1
theorem en_le {B : Nat → Nat} {n : Nat} {q : Nat → Prop} {a : Nat} (h : a ≤ n) : en B n q a ≤ n := (en_s _ a rfl h).2.1
theorem en_in {B : Nat → Nat} {n : Nat} {q : Nat → Prop} {a : Nat} (h : a ≤ n) : ∀ i, a ≤ i → i < en B n q a → inP B n q i := (en_s _ a rfl h).2.2.1
theorem en_no {B : Nat → Nat} {n : Nat} {q : Nat → Prop} {a : Nat} (h : a ≤ n) : ¬ inP B n q (en B n q a) := (en_s _ a rfl h).2.2.2
theorem en_gt {B : Nat → Nat} {n : Nat} {q : Nat → Prop} {a : Nat} (h : inP B n q a) : a < en B n q a := by
  have h1 := en_ge (B := B) (q := q) (show a ≤ n from Nat.le_of_lt h.1)
  have h2 := en_no (B := B) (q := q) (show a ≤ n from Nat.le_of_lt h.1)
  rcases Nat.lt_or_eq_of_le h1 with e | e
  · exact e
  · rw [← e] at h2; exact absurd h h2
/-- the first k letters from a on -/
def lsF (B : Nat → Nat) (a : Nat) : Nat → List Nat
  | 0 => []
  | k + 1 => lsF B a k ++ [B (a + k) - 96]
theorem lsF_len {B : Nat → Nat} {a : Nat} : ∀ k, (lsF B a k).length = k
  | 0 => rfl
  | k + 1 => by rw [lsF, List.length_append, lsF_len k]; rfl
theorem nkC_s (l : List Nat) (c : Nat) : nkC (l ++ [c]) = 32 * nkC l + c := by unfold nkC; rw [List.foldl_append]; rfl
theorem nkM_s (l : List Nat) (c : Nat) : nkM (l ++ [c]) = 27 * nkM l + c := by unfold nkM; rw [List.foldl_append]; rfl
/-- letters: 1 .. 26 -/
def ltO (l : List Nat) : Prop := ∀ c ∈ l, 1 ≤ c ∧ c ≤ 26
theorem ltO_s {l : List Nat} {c : Nat} (h : ltO (l ++ [c])) : ltO l ∧ 1 ≤ c ∧ c ≤ 26 := ⟨fun d hd => h d (List.mem_append_left _ hd), h c (List.mem_append_right _ (List.mem_singleton.mpr rfl))⟩
theorem list_end (l : List Nat) : l = [] ∨ ∃ k c, l = k ++ [c] := by
  rcases List.eq_nil_or_concat l with h | ⟨k, c, h⟩
  · exact Or.inl h
  · exact Or.inr ⟨k, c, by rw [h, List.concat_eq_append]⟩
theorem nkC_lt : ∀ n (l : List Nat), l.length = n → ltO l → nkC l < 32 ^ n
  | 0, l, h, _ => by rw [List.length_eq_zero_iff.mp h]; decide
  | n + 1, l, h, o => by
    rcases list_end l with e | ⟨k, c, e⟩
    · rw [e] at h; exact absurd h (by simp)
    · subst e
      obtain ⟨o1, o2, o3⟩ := ltO_s o
      rw [List.length_append] at h
      have ih := nkC_lt n k (by simpa using h) o1
      rw [nkC_s, Nat.pow_succ]
      omega
theorem nkM_lt : ∀ n (l : List Nat), l.length = n → ltO l → nkM l < 27 ^ n
  | 0, l, h, _ => by rw [List.length_eq_zero_iff.mp h]; decide
  | n + 1, l, h, o => by
    rcases list_end l with e | ⟨k, c, e⟩
    · rw [e] at h; exact absurd h (by simp)
    · subst e
      obtain ⟨o1, o2, o3⟩ := ltO_s o
      rw [List.length_append] at h
      have ih := nkM_lt n k (by simpa using h) o1
      rw [nkM_s, Nat.pow_succ]
      omega
theorem nkC_inj : ∀ n (l l' : List Nat), l.length = n → ltO l → ltO l' → nkC l = nkC l' → l = l'
  | 0, l, l', h, o, o', e => by
    have hl := List.length_eq_zero_iff.mp h
    subst hl
    rcases list_end l' with z | ⟨k, c, z⟩
    · exact z.symm
    · subst z
      obtain ⟨_, o2, _⟩ := ltO_s o'
      rw [nkC_s] at e
      have : nkC [] = 0 := rfl
      omega
  | n + 1, l, l', h, o, o', e => by
    rcases list_end l with z | ⟨k, c, z⟩
    · rw [z] at h; exact absurd h (by simp)
    · subst z
      obtain ⟨o1, o2, o3⟩ := ltO_s o
      rcases list_end l' with z' | ⟨k', c', z'⟩
      · subst z'
        rw [nkC_s] at e
        have : nkC [] = 0 := rfl
        omega
      · subst z'
        obtain ⟨u1, u2, u3⟩ := ltO_s o'
        rw [nkC_s, nkC_s] at e
        rw [List.length_append] at h
        have := nkC_inj n k k' (by simpa using h) o1 u1 (by omega)
        rw [this, show c = c' by omega]
theorem nkM_inj : ∀ n (l l' : List Nat), l.length = n → ltO l → ltO l' → nkM l = nkM l' → l = l'
  | 0, l, l', h, o, o', e => by
    have hl := List.length_eq_zero_iff.mp h
    subst hl
    rcases list_end l' with z | ⟨k, c, z⟩
    · exact z.symm
    · subst z
      obtain ⟨_, o2, _⟩ := ltO_s o'
      rw [nkM_s] at e
      have : nkM [] = 0 := rfl
      omega
  | n + 1, l, l', h, o, o', e => by
    rcases list_end l with z | ⟨k, c, z⟩
    · rw [z] at h; exact absurd h (by simp)
    · subst z
      obtain ⟨o1, o2, o3⟩ := ltO_s o
      rcases list_end l' with z' | ⟨k', c', z'⟩
      · subst z'
        rw [nkM_s] at e
        have : nkM [] = 0 := rfl
        omega
      · subst z'
        obtain ⟨u1, u2, u3⟩ := ltO_s o'
        rw [nkM_s, nkM_s] at e
        rw [List.length_append] at h
        have := nkM_inj n k k' (by simpa using h) o1 u1 (by omega)
        rw [this, show c = c' by omega]
theorem kw_ok : ∀ k, k < 23 → ltO (kwL k) ∧ (kwL k).length ≤ 8 := by
  have : ∀ k, k < 23 → (∀ c ∈ kwL k, 1 ≤ c ∧ c ≤ 26) ∧ (kwL k).length ≤ 8 := by decide +kernel
  exact this
theorem kw_inj : ∀ k, k < 23 → ∀ j, j < 23 → kwL k = kwL j → k = j := by decide +kernel
/-- which word, or 23: none -/
def kwF (l : List Nat) : Nat → Nat → Nat
  | 0, _ => 23
  | f + 1, k => if kwL k = l then k else kwF l f (k + 1)
def kwI (l : List Nat) : Nat := kwF l 23 0
theorem kwF_s {l : List Nat} : ∀ f k, k + f = 23 → (∀ j, j < k → ¬ kwL j = l) → (kwF l f k < 23 ∧ kwL (kwF l f k) = l) ∨ (kwF l f k = 23 ∧ ∀ j, j < 23 → ¬ kwL j = l)
  | 0, k, h, n => Or.inr ⟨rfl, fun j hj => n j (by omega)⟩
  | f + 1, k, h, n => by
    unfold kwF
    by_cases e : kwL k = l
    · rw [if_pos e]; exact Or.inl ⟨by omega, e⟩
    · rw [if_neg e]
      exact kwF_s f (k + 1) (by omega) (fun j hj => by
        by_cases z : j = k
        · rw [z]; exact e
        · exact n j (by omega))
theorem kwI_s (l : List Nat) : (kwI l < 23 ∧ kwL (kwI l) = l) ∨ (kwI l = 23 ∧ ∀ j, j < 23 → ¬ kwL j = l) := kwF_s 23 0 rfl (fun j h => absurd h (Nat.not_lt_zero j))
theorem kwI_of {l : List Nat} {k : Nat} (hk : k < 23) (h : kwL k = l) : kwI l = k := by
  rcases kwI_s l with ⟨a, b⟩ | ⟨a, b⟩
  · exact kw_inj _ a _ hk (b.trans h.symm)
  · exact absurd h (b k hk)
theorem kwI_no {l : List Nat} (h : ∀ j, j < 23 → ¬ kwL j = l) : kwI l = 23 := by
  rcases kwI_s l with ⟨a, b⟩ | ⟨a, b⟩
  · exact absurd b (h _ a)
  · exact a
/-- a sign's kind -/
def sgK (c : Nat) : Nat := if c = 59 then 25 else if c = 61 then 26 else if c = 43 then 27 else if c = 45 then 28 else if c = 42 then 29 else if c = 47 then 30 else if c = 60 then 31 else if c = 40 then 32 else if c = 41 then 33 else 35
/-- the number of the first k digits from a on -/
def dgF (B : Nat → Nat) (a : Nat) : Nat → Nat
  | 0 => 0
  | k + 1 => 10 * dgF B a k + (B (a + k) - 48)
/-- the token at a: its kind; where it ends -/
noncomputable def tkK (B : Nat → Nat) (n a : Nat) : Nat := pit (a < n) (pit (isLt (B a)) (if 8 < en B n isLt a - a then 35 else kwI (lsF B a (en B n isLt a - a))) (pit (isDg (B a)) (if 4 < en B n isDg a - a then 35 else 24) (sgK (B a)))) 34
noncomputable def tkN (B : Nat → Nat) (n a : Nat) : Nat := pit (a < n) (pit (isLt (B a)) (en B n isLt a) (pit (isDg (B a)) (en B n isDg a) (a + 1))) a
noncomputable def tkQ (B : Nat → Nat) (n : Nat) : Nat → Nat
  | 0 => 0
  | i + 1 => tkN B n (en B n isBk (tkQ B n i))
/-- the i-th token: place, kind, letters, number -/
noncomputable def tP (B : Nat → Nat) (n i : Nat) : Nat := en B n isBk (tkQ B n i)
noncomputable def tK (B : Nat → Nat) (n i : Nat) : Nat := tkK B n (tP B n i)
noncomputable def tL (B : Nat → Nat) (n i : Nat) : List Nat := lsF B (tP B n i) (en B n isLt (tP B n i) - tP B n i)
noncomputable def tD (B : Nat → Nat) (n i : Nat) : Nat := dgF B (tP B n i) (en B n isDg (tP B n i) - tP B n i)
theorem tkN_le {B : Nat → Nat} {n a : Nat} (h : a ≤ n) : tkN B n a ≤ n := by
  unfold tkN
  by_cases q : a < n
  · rw [pit_t q]
    by_cases l : isLt (B a)
    · rw [pit_t l]; exact en_le h
    · rw [pit_f l]
      by_cases d : isDg (B a)
      · rw [pit_t d]; exact en_le h
      · rw [pit_f d]; omega
  · rw [pit_f q]; exact h
theorem tkQ_le {B : Nat → Nat} {n : Nat} : ∀ i, tkQ B n i ≤ n
  | 0 => Nat.zero_le n
  | i + 1 => tkN_le (en_le (tkQ_le i))
theorem tP_le {B : Nat → Nat} {n i : Nat} : tP B n i ≤ n := en_le (tkQ_le i)
theorem lsF_o {B : Nat → Nat} {n a : Nat} : ∀ k, (∀ i, i < k → inP B n isLt (a + i)) → ltO (lsF B a k)
  | 0, _ => fun c hc => absurd hc (by simp [lsF])
  | k + 1, h => fun c hc => by
    rw [lsF, List.mem_append] at hc
    rcases hc with hc | hc
    · exact lsF_o k (fun i hi => h i (by omega)) c hc
    · have := (h k (by omega)).2
      rw [List.mem_singleton.mp hc]
      unfold isLt at this
      omega
theorem dgF_lt {B : Nat → Nat} {n a : Nat} : ∀ k, (∀ i, i < k → inP B n isDg (a + i)) → dgF B a k < 10 ^ k
  | 0, _ => Nat.zero_lt_one
  | k + 1, h => by
    have ih := dgF_lt k (fun i hi => h i (by omega))
    have := (h k (by omega)).2
    unfold isDg at this
    rw [dgF, Nat.pow_succ]
    omega
