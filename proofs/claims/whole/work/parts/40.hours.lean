/-! the class's hour is the reference's -/
/-- a fold over places; over the land, row by row -/
def fo {α : Type} (st : Nat → α → α) : Nat → α → α
  | 0, a => a
  | i + 1, a => st i (fo st i a)
def foX {α : Type} (st : Nat → α → α) (y : Nat) : Nat → α → α
  | 0, a => a
  | x + 1, a => st (8 * y + x) (foX st y x a)
def foY {α : Type} (st : Nat → α → α) (wd : Nat) : Nat → α → α
  | 0, a => a
  | y + 1, a => foX st y wd (foY st wd y a)
theorem fo_X {α : Type} {st : Nat → α → α} {y : Nat} {a : α} : ∀ x, fo st (8 * y + x) a = foX st y x (fo st (8 * y) a)
  | 0 => rfl
  | x + 1 => by
    show st (8 * y + x) (fo st (8 * y + x) a) = st (8 * y + x) (foX st y x (fo st (8 * y) a))
    rw [fo_X x]
theorem foX_c {α : Type} {st st' : Nat → α → α} {y : Nat} {a : α} : ∀ x, (∀ z, z < x → st (8 * y + z) = st' (8 * y + z)) → foX st y x a = foX st' y x a
  | 0, _ => rfl
  | x + 1, h => by rw [foX, foX, h x (by omega), foX_c x (fun z hz => h z (by omega))]
theorem fo_c {α : Type} {st st' : Nat → α → α} {a : α} : ∀ n, (∀ z, z < n → st z = st' z) → fo st n a = fo st' n a
  | 0, _ => rfl
  | n + 1, h => by rw [fo, fo, h n (by omega), fo_c n (fun z hz => h z (by omega))]
theorem foX_id {α : Type} {st : Nat → α → α} {y k : Nat} {a : α} : ∀ j, (∀ z, k ≤ z → z < k + j → ∀ b, st (8 * y + z) b = b) → foX st y (k + j) a = foX st y k a
  | 0, _ => rfl
  | j + 1, h => by
    rw [show k + (j + 1) = (k + j) + 1 by omega, foX, h (k + j) (by omega) (by omega), foX_id j (fun z h1 h2 => h z h1 (by omega))]
theorem fo_nest {α : Type} {st st' : Nat → α → α} {P : Pl} {a : α} (hw : P.wd ≤ 8) (hr : P.rw ≤ 5) (h1 : ∀ c, c < 40 → ld P c → st' c = st c) (h2 : ∀ c, c < 40 → ¬ ld P c → ∀ b, st' c b = b) : fo st' 40 a = foY st P.wd P.rw a := by
  have row : ∀ y, y < 5 → ∀ b, foX st' y 8 b = if y < P.rw then foX st y P.wd b else b := by
    intro y hy b
    by_cases q : y < P.rw
    · rw [if_pos q, show 8 = P.wd + (8 - P.wd) by omega, foX_id _ (fun z z1 z2 => h2 _ (by omega) (fun l => by have := l.1; omega))]
      exact foX_c _ (fun z hz => h1 _ (by omega) ⟨by omega, by omega⟩)
    · rw [if_neg q]
      have := foX_id (st := st') (y := y) (k := 0) (a := b) 8 (fun z z1 z2 => h2 _ (by omega) (fun l => by have := l.2; omega))
      exact this
  have key : ∀ y, y ≤ 5 → fo st' (8 * y) a = foY st P.wd (min y P.rw) a := by
    intro y
    induction y with
    | zero => intro _; rw [Nat.zero_min]; rfl
    | succ y ih =>
      intro hy
      rw [show 8 * (y + 1) = 8 * y + 8 by omega, fo_X, ih (by omega), row y (by omega)]
      by_cases q : y < P.rw
      · rw [if_pos q, show min y P.rw = y by omega, show min (y + 1) P.rw = y + 1 by omega]
        rfl
      · rw [if_neg q, show min (y + 1) P.rw = min y P.rw by omega]
  have := key 5 (by omega)
  rw [show min 5 P.rw = P.rw by omega] at this
  exact this
/-- sums -/
def ad (g : Nat → Int32) : Nat → Int32 → Int32 := fun c a => a + g c
theorem fo_ad0 {g : Nat → Int32} {a : Int32} : ∀ n, fo (ad g) n a = a + fo (ad g) n 0
  | 0 => by show a = a + 0; rw [Int32.add_zero]
  | n + 1 => by
    show fo (ad g) n a + g n = a + (fo (ad g) n 0 + g n)
    rw [fo_ad0 n, Int32.add_assoc]
theorem fo_ad2 {g h : Nat → Int32} : ∀ n, fo (ad (fun c => g c + h c)) n 0 = fo (ad g) n 0 + fo (ad h) n 0
  | 0 => by show (0 : Int32) = 0 + 0; rfl
  | n + 1 => by
    show fo (ad (fun c => g c + h c)) n 0 + (g n + h n) = fo (ad g) n 0 + g n + (fo (ad h) n 0 + h n)
    rw [fo_ad2 n, Int32.add_assoc, Int32.add_assoc, ← Int32.add_assoc (fo (ad h) n 0), Int32.add_comm (fo (ad h) n 0) (g n), Int32.add_assoc]
theorem fo_one {v : Nat → Int32} {k : Nat} : ∀ n, fo (ad (fun c => if c = k then v c else 0)) n 0 = if k < n then v k else 0
  | 0 => by rw [if_neg (by omega)]; rfl
  | n + 1 => by
    show fo (ad (fun c => if c = k then v c else 0)) n 0 + (if n = k then v n else 0) = _
    rw [fo_one n]
    by_cases e : n = k
    · subst e
      rw [if_neg (by omega), if_pos rfl, if_pos (by omega), Int32.zero_add]
    · rw [if_neg e, Int32.add_zero]
      by_cases q : k < n
      · rw [if_pos q, if_pos (by omega)]
      · rw [if_neg q, if_neg (by omega)]
/-- where a cell's fog goes, as a place (99: nowhere) -/
def tg (N : Nat → Int32) (c : Nat) : Nat := if N c < 0 then 99 else (N c).toNatClampNeg
theorem mv_fo {F T N : Nat → Int32} (hN : ∀ c, c < 40 → N c < 0 ∨ ∃ j, j < 40 ∧ N c = nI j) (hz : ∀ c, c < 40 → F c ≤ 0 → F c = 0 ∧ T c = 0) {k : Nat} (hk : k < 40) : ∀ i, i ≤ 40 → mvS F T N i k = fo (ad (fun c => (if c = k then F c - T c else 0) + (if tg N c = k then T c else 0))) i 0
  | 0, _ => rfl
  | i + 1, hi => by
    show mvS F T N (i + 1) k = fo _ i 0 + ((if i = k then F i - T i else 0) + (if tg N i = k then T i else 0))
    rw [← mv_fo hN hz hk i (by omega), mvS]
    by_cases h0 : F i ≤ 0
    · rw [if_pos h0, (hz i (by omega) h0).1, (hz i (by omega) h0).2]
      split <;> split <;> simp
    rw [if_neg h0]
    rcases hN i (by omega) with hn | ⟨j, hj, hn⟩
    · rw [if_pos hn, show tg N i = 99 from if_pos hn, if_neg (show ¬ 99 = k by omega), Int32.add_zero]
      unfold upd
      by_cases e : k = i
      · subst e
        rw [if_pos rfl, if_pos rfl]
      · rw [if_neg e, if_neg (Ne.symm e), Int32.add_zero]
    · have hnn : ¬ N i < 0 := by rw [hn]; exact nI_pos (by omega)
      have htg : tg N i = j := by unfold tg; rw [if_neg hnn, hn, nI_clamp (by omega)]
      rw [if_neg hnn, if_neg (by rw [hn, nI_leI (by omega) (by omega)]; omega), htg, show (N i).toNatClampNeg = j by rw [hn, nI_clamp (by omega)]]
      unfold upd
      by_cases e2 : k = j
      · subst e2
        rw [if_pos rfl, if_pos rfl]
        by_cases e : k = i
        · subst e
          rw [if_pos rfl, if_pos rfl, Int32.add_assoc]
        · rw [if_neg e, if_neg (Ne.symm e), Int32.zero_add]
      · rw [if_neg e2, if_neg (Ne.symm e2), Int32.add_zero]
        by_cases e : k = i
        · subst e
          rw [if_pos rfl, if_pos rfl]
        · rw [if_neg e, if_neg (Ne.symm e), Int32.add_zero]
theorem stX_fo {T N ft : Nat → Int32} {y : Nat} {k : Nat} (hy : y < 5) (hN : ∀ c, c < 40 → N c < 0 ∨ ∃ j, j < 40 ∧ N c = nI j) (hk : k < 40) : ∀ x, x ≤ 8 → stX T N y ft x k = foX (ad (fun c => (if c = k then 0 - T c else 0) + (if tg N c = k then T c else 0))) y x (ft k)
  | 0, _ => rfl
  | x + 1, hx => by
    show stX T N y ft (x + 1) k = foX _ y x (ft k) + ((if 8 * y + x = k then 0 - T (8 * y + x) else 0) + (if tg N (8 * y + x) = k then T (8 * y + x) else 0))
    rw [← stX_fo hy hN hk x (by omega), stX]
    have hsub : ∀ a b : Int32, a - b = a + (0 - b) := fun a b => by rw [Int32.sub_eq_add_neg, Int32.sub_eq_add_neg 0 b, Int32.zero_add]
    have hNi := hN (8 * y + x) (by omega)
    generalize 8 * y + x = i at *
    rcases hNi with hn | ⟨j, hj, hn⟩
    · rw [if_pos hn, show tg N i = 99 from if_pos hn, if_neg (show ¬ 99 = k by omega), Int32.add_zero]
      unfold upd
      by_cases e : k = i
      · subst e
        rw [if_pos rfl, if_pos rfl]; exact hsub _ _
      · rw [if_neg e, if_neg (Ne.symm e), Int32.add_zero]
    · have hnn : ¬ N i < 0 := by rw [hn]; exact nI_pos (by omega)
      have htg : tg N i = j := by unfold tg; rw [if_neg hnn, hn, nI_clamp (by omega)]
      rw [if_neg hnn, htg, show (N i).toNatClampNeg = j by rw [hn, nI_clamp (by omega)]]
      unfold upd
      by_cases e2 : k = j
      · subst e2
        rw [if_pos rfl, if_pos rfl]
        by_cases e : k = i
        · subst e
          rw [if_pos rfl, if_pos rfl, ← Int32.add_assoc, ← hsub]
        · rw [if_neg e, if_neg (Ne.symm e), Int32.zero_add]
      · rw [if_neg e2, if_neg (Ne.symm e2), Int32.add_zero]
        by_cases e : k = i
        · subst e
          rw [if_pos rfl, if_pos rfl]; exact hsub _ _
        · rw [if_neg e, if_neg (Ne.symm e), Int32.add_zero]
theorem stY_fo {T N ft : Nat → Int32} {wd k : Nat} (hw : wd ≤ 8) (hN : ∀ c, c < 40 → N c < 0 ∨ ∃ j, j < 40 ∧ N c = nI j) (hk : k < 40) : ∀ y, y ≤ 5 → stY T N wd ft y k = foY (ad (fun c => (if c = k then 0 - T c else 0) + (if tg N c = k then T c else 0))) wd y (ft k)
  | 0, _ => rfl
  | y + 1, hy => by rw [stY, foY, stX_fo (by omega) hN hk wd hw, stY_fo hw hN hk y (by omega)]
/-- a held int, as a natural -/
theorem hl_nat (v : Int32) {n : Nat} (hn : n < 2 ^ 31) : ∃ t, t ≤ n ∧ hlS v (nI 0) (nI n) = nI t ∧ wiS v (nI n) = nI t := by
  unfold hlS wiS
  by_cases h0 : v < 0
  · refine ⟨0, by omega, ?_, ?_⟩
    · rw [if_neg (by rw [nI_0]; exact Int32.not_le.mpr h0)]
    · have : ¬ nI n < v := fun q => by
        have h1 := Int32.lt_iff_toInt_lt.mp h0
        have h2 := Int32.lt_iff_toInt_lt.mp q
        rw [nI_toInt hn] at h2
        rw [Int32.toInt_zero] at h1
        omega
      rw [if_neg this, if_neg (by rw [nI_0]; exact fun q => absurd (Int32.lt_trans q h0) (Int32.lt_irrefl))]
  by_cases h1 : nI n < v
  · refine ⟨n, Nat.le_refl n, ?_, ?_⟩
    · rw [if_pos (by rw [nI_0]; exact Int32.not_lt.mp h0), if_neg (Int32.not_le.mpr h1)]
    · rw [if_pos h1]
      split
      · rfl
      · rename_i q
        rw [nI_ltI (by omega) hn] at q
        rw [show n = 0 by omega]
  · have hv : ∃ j, j < n + 1 ∧ v = nI j := by
      by_cases hM : n + 1 < 2 ^ 31
      · exact nat_of (n := n + 1) rfl hM h0 (fun q => h1 (by
          rw [Int32.le_iff_toInt_le, nI_toInt hM] at q
          rw [Int32.lt_iff_toInt_lt, nI_toInt hn]
          omega))
      · obtain ⟨j, hj, rfl⟩ := nI_of h0
        exact ⟨j, by omega, rfl⟩
    obtain ⟨j, hj, rfl⟩ := hv
    refine ⟨j, by omega, ?_, ?_⟩
    · rw [if_pos (nI_le (by omega) (by omega)), if_pos (nI_le (by omega) hn)]
    · rw [if_neg h1]
      split
      · rfl
      · rename_i q
        rw [nI_ltI (by omega) (by omega)] at q
        rw [show j = 0 by omega]
theorem w_eq (P : Pl) (h : Int32) : wS P h = wM P h := by
  unfold wS wM
  generalize P.lw 0 (cvS h) = v
  have e : (v - v / nI 5 * nI 5).toInt = v.toInt.tmod 5 := by
    have h5 : (nI 5) = (5 : Int32) := rfl
    rw [h5, show v - v / 5 * 5 = v % 5 from by
      apply Int32.toInt_inj.mp
      sorry]
    sorry
  sorry
