/-! the class's hour is the reference's -/
/-- a fold over places; over the land, row by row -/
def fo {α : Type} (st : Nat → α → α) : Nat → α → α
  | 0, a => a
  | i + 1, a => st i (fo st i a)
def foX {α : Type} (st : Nat → α → α) (y : Nat) : Nat → α → α
  | 0, a => a
  | x + 1, a => st (8 * y + x) (foX st y x a)
def foY {α : Type} (st : Nat → α → α) (wd : Nat) : Nat → α → α
  | 0, a => a
  | y + 1, a => foX st y wd (foY st wd y a)
theorem fo_X {α : Type} {st : Nat → α → α} {y : Nat} {a : α} : ∀ x, fo st (8 * y + x) a = foX st y x (fo st (8 * y) a)
  | 0 => rfl
  | x + 1 => by
    show st (8 * y + x) (fo st (8 * y + x) a) = st (8 * y + x) (foX st y x (fo st (8 * y) a))
    rw [fo_X x]
theorem foX_c {α : Type} {st st' : Nat → α → α} {y : Nat} {a : α} : ∀ x, (∀ z, z < x → st (8 * y + z) = st' (8 * y + z)) → foX st y x a = foX st' y x a
  | 0, _ => rfl
  | x + 1, h => by rw [foX, foX, h x (by omega), foX_c x (fun z hz => h z (by omega))]
theorem fo_c {α : Type} {st st' : Nat → α → α} {a : α} : ∀ n, (∀ z, z < n → st z = st' z) → fo st n a = fo st' n a
  | 0, _ => rfl
  | n + 1, h => by rw [fo, fo, h n (by omega), fo_c n (fun z hz => h z (by omega))]
theorem foX_id {α : Type} {st : Nat → α → α} {y k : Nat} {a : α} : ∀ j, (∀ z, k ≤ z → z < k + j → ∀ b, st (8 * y + z) b = b) → foX st y (k + j) a = foX st y k a
  | 0, _ => rfl
  | j + 1, h => by
    rw [show k + (j + 1) = (k + j) + 1 by omega, foX, h (k + j) (by omega) (by omega), foX_id j (fun z h1 h2 => h z h1 (by omega))]
theorem fo_nest {α : Type} {st st' : Nat → α → α} {P : Pl} {a : α} (hw : P.wd ≤ 8) (hr : P.rw ≤ 5) (h1 : ∀ c, c < 40 → ld P c → st' c = st c) (h2 : ∀ c, c < 40 → ¬ ld P c → ∀ b, st' c b = b) : fo st' 40 a = foY st P.wd P.rw a := by
  have row : ∀ y, y < 5 → ∀ b, foX st' y 8 b = if y < P.rw then foX st y P.wd b else b := by
    intro y hy b
    by_cases q : y < P.rw
    · rw [if_pos q, show 8 = P.wd + (8 - P.wd) by omega, foX_id _ (fun z z1 z2 => h2 _ (by omega) (fun l => by have := l.1; omega))]
      exact foX_c _ (fun z hz => h1 _ (by omega) ⟨by omega, by omega⟩)
    · rw [if_neg q]
      have := foX_id (st := st') (y := y) (k := 0) (a := b) 8 (fun z z1 z2 => h2 _ (by omega) (fun l => by have := l.2; omega))
      exact this
  have key : ∀ y, y ≤ 5 → fo st' (8 * y) a = foY st P.wd (min y P.rw) a := by
    intro y
    induction y with
    | zero => intro _; rw [Nat.zero_min]; rfl
    | succ y ih =>
      intro hy
      rw [show 8 * (y + 1) = 8 * y + 8 by omega, fo_X, ih (by omega), row y (by omega)]
      by_cases q : y < P.rw
      · rw [if_pos q, show min y P.rw = y by omega, show min (y + 1) P.rw = y + 1 by omega]
        rfl
      · rw [if_neg q, show min (y + 1) P.rw = min y P.rw by omega]
  have := key 5 (by omega)
  rw [show min 5 P.rw = P.rw by omega] at this
  exact this
/-- sums -/
def ad (g : Nat → Int32) : Nat → Int32 → Int32 := fun c a => a + g c
theorem fo_ad0 {g : Nat → Int32} {a : Int32} : ∀ n, fo (ad g) n a = a + fo (ad g) n 0
  | 0 => by show a = a + 0; rw [Int32.add_zero]
  | n + 1 => by
    show fo (ad g) n a + g n = a + (fo (ad g) n 0 + g n)
    rw [fo_ad0 n, Int32.add_assoc]
theorem fo_ad2 {g h : Nat → Int32} : ∀ n, fo (ad (fun c => g c + h c)) n 0 = fo (ad g) n 0 + fo (ad h) n 0
  | 0 => by show (0 : Int32) = 0 + 0; rfl
  | n + 1 => by
    show fo (ad (fun c => g c + h c)) n 0 + (g n + h n) = fo (ad g) n 0 + g n + (fo (ad h) n 0 + h n)
    rw [fo_ad2 n, Int32.add_assoc, Int32.add_assoc, ← Int32.add_assoc (fo (ad h) n 0), Int32.add_comm (fo (ad h) n 0) (g n), Int32.add_assoc]
theorem fo_one {v : Nat → Int32} {k : Nat} : ∀ n, fo (ad (fun c => if c = k then v c else 0)) n 0 = if k < n then v k else 0
  | 0 => by rw [if_neg (by omega)]; rfl
  | n + 1 => by
    show fo (ad (fun c => if c = k then v c else 0)) n 0 + (if n = k then v n else 0) = _
    rw [fo_one n]
    by_cases e : n = k
    · subst e
      rw [if_neg (by omega), if_pos rfl, if_pos (by omega), Int32.zero_add]
    · rw [if_neg e, Int32.add_zero]
      by_cases q : k < n
      · rw [if_pos q, if_pos (by omega)]
      · rw [if_neg q, if_neg (by omega)]
/-- where a cell's fog goes, as a place (99: nowhere) -/
def tg (N : Nat → Int32) (c : Nat) : Nat := if N c < 0 then 99 else (N c).toNatClampNeg
theorem mv_fo {F T N : Nat → Int32} (hN : ∀ c, c < 40 → N c < 0 ∨ ∃ j, j < 40 ∧ N c = nI j) (hz : ∀ c, c < 40 → F c ≤ 0 → F c = 0 ∧ T c = 0) {k : Nat} (hk : k < 40) : ∀ i, i ≤ 40 → mvS F T N i k = fo (ad (fun c => (if c = k then F c - T c else 0) + (if tg N c = k then T c else 0))) i 0
  | 0, _ => rfl
  | i + 1, hi => by
    show mvS F T N (i + 1) k = fo _ i 0 + ((if i = k then F i - T i else 0) + (if tg N i = k then T i else 0))
    rw [← mv_fo hN hz hk i (by omega), mvS]
    by_cases h0 : F i ≤ 0
    · rw [if_pos h0, (hz i (by omega) h0).1, (hz i (by omega) h0).2]
      split <;> split <;> simp
    rw [if_neg h0]
    rcases hN i (by omega) with hn | ⟨j, hj, hn⟩
    · rw [if_pos hn, show tg N i = 99 from if_pos hn, if_neg (show ¬ 99 = k by omega), Int32.add_zero]
      unfold upd
      by_cases e : k = i
      · subst e
        rw [if_pos rfl, if_pos rfl]
      · rw [if_neg e, if_neg (Ne.symm e), Int32.add_zero]
    · have hnn : ¬ N i < 0 := by rw [hn]; exact nI_pos (by omega)
      have htg : tg N i = j := by unfold tg; rw [if_neg hnn, hn, nI_clamp (by omega)]
      rw [if_neg hnn, if_neg (by rw [hn, nI_leI (by omega) (by omega)]; omega), htg, show (N i).toNatClampNeg = j by rw [hn, nI_clamp (by omega)]]
      unfold upd
      by_cases e2 : k = j
      · subst e2
        rw [if_pos rfl, if_pos rfl]
        by_cases e : k = i
        · subst e
          rw [if_pos rfl, if_pos rfl, Int32.add_assoc]
        · rw [if_neg e, if_neg (Ne.symm e), Int32.zero_add]
      · rw [if_neg e2, if_neg (Ne.symm e2), Int32.add_zero]
        by_cases e : k = i
        · subst e
          rw [if_pos rfl, if_pos rfl]
        · rw [if_neg e, if_neg (Ne.symm e), Int32.add_zero]
theorem stX_fo {T N ft : Nat → Int32} {y : Nat} {k : Nat} (hy : y < 5) (hN : ∀ c, c < 40 → N c < 0 ∨ ∃ j, j < 40 ∧ N c = nI j) (hk : k < 40) : ∀ x, x ≤ 8 → stX T N y ft x k = foX (ad (fun c => (if c = k then 0 - T c else 0) + (if tg N c = k then T c else 0))) y x (ft k)
  | 0, _ => rfl
  | x + 1, hx => by
    show stX T N y ft (x + 1) k = foX _ y x (ft k) + ((if 8 * y + x = k then 0 - T (8 * y + x) else 0) + (if tg N (8 * y + x) = k then T (8 * y + x) else 0))
    rw [← stX_fo hy hN hk x (by omega), stX]
    have hsub : ∀ a b : Int32, a - b = a + (0 - b) := fun a b => by rw [Int32.sub_eq_add_neg, Int32.sub_eq_add_neg 0 b, Int32.zero_add]
    have hNi := hN (8 * y + x) (by omega)
    generalize 8 * y + x = i at *
    rcases hNi with hn | ⟨j, hj, hn⟩
    · rw [if_pos hn, show tg N i = 99 from if_pos hn, if_neg (show ¬ 99 = k by omega), Int32.add_zero]
      unfold upd
      by_cases e : k = i
      · subst e
        rw [if_pos rfl, if_pos rfl]; exact hsub _ _
      · rw [if_neg e, if_neg (Ne.symm e), Int32.add_zero]
    · have hnn : ¬ N i < 0 := by rw [hn]; exact nI_pos (by omega)
      have htg : tg N i = j := by unfold tg; rw [if_neg hnn, hn, nI_clamp (by omega)]
      rw [if_neg hnn, htg, show (N i).toNatClampNeg = j by rw [hn, nI_clamp (by omega)]]
      unfold upd
      by_cases e2 : k = j
      · subst e2
        rw [if_pos rfl, if_pos rfl]
        by_cases e : k = i
        · subst e
          rw [if_pos rfl, if_pos rfl, ← Int32.add_assoc, ← hsub]
        · rw [if_neg e, if_neg (Ne.symm e), Int32.zero_add]
      · rw [if_neg e2, if_neg (Ne.symm e2), Int32.add_zero]
        by_cases e : k = i
        · subst e
          rw [if_pos rfl, if_pos rfl]; exact hsub _ _
        · rw [if_neg e, if_neg (Ne.symm e), Int32.add_zero]
theorem stY_fo {T N ft : Nat → Int32} {wd k : Nat} (hw : wd ≤ 8) (hN : ∀ c, c < 40 → N c < 0 ∨ ∃ j, j < 40 ∧ N c = nI j) (hk : k < 40) : ∀ y, y ≤ 5 → stY T N wd ft y k = foY (ad (fun c => (if c = k then 0 - T c else 0) + (if tg N c = k then T c else 0))) wd y (ft k)
  | 0, _ => rfl
  | y + 1, hy => by rw [stY, foY, stX_fo (by omega) hN hk wd hw, stY_fo hw hN hk y (by omega)]
/-- a held int, as a natural -/
theorem hl_nat (v : Int32) {n : Nat} (hn : n < 2 ^ 31) : ∃ t, t ≤ n ∧ hlS v (nI 0) (nI n) = nI t ∧ wiS v (nI n) = nI t := by
  unfold hlS wiS
  by_cases h0 : v < 0
  · refine ⟨0, by omega, ?_, ?_⟩
    · rw [if_neg (by rw [nI_0]; exact Int32.not_le.mpr h0)]
    · have : ¬ nI n < v := fun q => by
        have h1 := Int32.lt_iff_toInt_lt.mp h0
        have h2 := Int32.lt_iff_toInt_lt.mp q
        rw [nI_toInt hn] at h2
        rw [Int32.toInt_zero] at h1
        omega
      rw [if_neg this, if_neg (by rw [nI_0]; exact fun q => absurd (Int32.lt_trans q h0) (Int32.lt_irrefl))]
  by_cases h1 : nI n < v
  · refine ⟨n, Nat.le_refl n, ?_, ?_⟩
    · rw [if_pos (by rw [nI_0]; exact Int32.not_lt.mp h0), if_neg (Int32.not_le.mpr h1)]
    · rw [if_pos h1]
      split
      · rfl
      · rename_i q
        rw [nI_ltI (by omega) hn] at q
        rw [show n = 0 by omega]
  · have hv : ∃ j, j < n + 1 ∧ v = nI j := by
      by_cases hM : n + 1 < 2 ^ 31
      · exact nat_of (n := n + 1) rfl hM h0 (fun q => h1 (by
          rw [Int32.le_iff_toInt_le, nI_toInt hM] at q
          rw [Int32.lt_iff_toInt_lt, nI_toInt hn]
          omega))
      · obtain ⟨j, hj, rfl⟩ := nI_of h0
        exact ⟨j, by omega, rfl⟩
    obtain ⟨j, hj, rfl⟩ := hv
    refine ⟨j, by omega, ?_, ?_⟩
    · rw [if_pos (nI_le (by omega) (by omega)), if_pos (nI_le (by omega) hn)]
    · rw [if_neg h1]
      split
      · rfl
      · rename_i q
        rw [nI_ltI (by omega) (by omega)] at q
        rw [show j = 0 by omega]
theorem rm_int (v : Int32) {d : Nat} (h0 : 0 < d) (hd : d < 2 ^ 31) : (v - v / nI d * nI d).toInt = v.toInt.tmod d := by
  have hb : nI d ≠ -1 := fun q => by
    have := congrArg Int32.toInt q
    rw [nI_toInt hd] at this
    have e : (-1 : Int32).toInt = -1 := rfl
    omega
  rw [Int32.toInt_sub, Int32.toInt_mul, Int32.toInt_div_of_ne_right _ _ hb, nI_toInt hd, Int.sub_bmod_bmod, show v.toInt - v.toInt.tdiv d * d = v.toInt.tmod d by rw [Int.tmod_def, Int.mul_comm]]
  have h1 := Int.tmod_lt_of_pos v.toInt (show (0 : Int) < d by omega)
  have h2 : -(d : Int) < v.toInt.tmod d := Int.lt_tmod_of_pos v.toInt (show (0 : Int) < d by omega)
  exact Int.bmod_eq_of_le (by omega) (by omega)
theorem w_eq (P : Pl) (h : Int32) : wS P h = wM P h := by
  unfold wS wM
  generalize P.lw 0 (cvS h) = v
  have e : (v - v / nI 5 * nI 5).toInt = v.toInt.tmod 5 := rm_int v (d := 5) (by decide) (by decide)
  have z0 : (0 : Int32).toInt = 0 := rfl
  by_cases q : 0 ≤ v
  · rw [if_pos q, if_neg]
    rw [Int32.lt_iff_toInt_lt, e]
    have q2 := Int32.le_iff_toInt_le.mp q
    have := Int.tmod_nonneg 5 (show 0 ≤ v.toInt from q2)
    have e0 : (nI 0).toInt = 0 := rfl
    omega
  · rw [if_neg q]
    split
    · rfl
    · rename_i q3
      apply Int32.toInt_inj.mp
      rw [e]
      rw [Int32.lt_iff_toInt_lt, e] at q3
      have q2 : v.toInt < 0 := by
        have := Int32.lt_iff_toInt_lt.mp (Int32.not_le.mp q)
        exact this
      have h1 := Int.neg_tmod v.toInt 5
      have h2 := Int.tmod_nonneg 5 (show 0 ≤ -v.toInt by omega)
      have e0 : (nI 0).toInt = 0 := rfl
      omega
theorem fo_nat {g : Nat → Int32} {M : Nat} : ∀ n, (∀ c, c < n → ∃ q, q ≤ M ∧ g c = nI q) → ∃ q, q ≤ n * M ∧ fo (ad g) n 0 = nI q
  | 0, _ => ⟨0, by omega, rfl⟩
  | n + 1, h => by
    obtain ⟨q, hq, e⟩ := fo_nat n (fun c hc => h c (by omega))
    obtain ⟨q2, hq2, e2⟩ := h n (by omega)
    refine ⟨q + q2, by rw [Nat.succ_mul]; omega, ?_⟩
    show fo (ad g) n 0 + g n = _
    rw [e, e2, nI_add]
/-- where fog goes is on the land -/
theorem nx_ok {P : Pl} (ok : PlOk P) (b : Int32) (c : Nat) : nxS (nI P.wd) (nI P.rw) b c < 0 ∨ ∃ j, j < 40 ∧ ld P j ∧ nxS (nI P.wd) (nI P.rw) b c = nI j := by
  have hw := ok.1
  have hr := ok.2.1
  rcases ic_ca ok (nI (c % 8) + stA b) (nI (c / 8) + stD b) with ⟨-, h⟩ | ⟨-, x, y, hx, hy, -, -, h⟩
  · left; show caS _ _ _ _ < 0; rw [h]; decide
  · right
    exact ⟨8 * y + x, by omega, ⟨by omega, by omega⟩, h⟩
/-- fog, in naturals; none off the land -/
def FgOk (P : Pl) (B : Nat) (r : Nat → Int32) : Prop := (∀ c, c < 40 → ∃ n, n ≤ B ∧ r c = nI n) ∧ ∀ c, c < 40 → ¬ ld P c → r c = nI 0
theorem t_eq {P : Pl} {e F W r : Nat → Int32} {B k : Nat} (hB : B < 2 ^ 31) (hf : FgOk P B r) (hF : ∀ c, c < 40 → F c = r c) (hW : ∀ c, c < 40 → ld P c → W c = r (40 + c)) {c : Nat} (hc : c < 40) : tS P e F W k c = tM P e r k c ∧ ∃ n t, n ≤ B ∧ t ≤ n ∧ r c = nI n ∧ tM P e r k c = nI t := by
  obtain ⟨n, hn, en⟩ := hf.1 c hc
  unfold tS tM
  rw [hF c hc]
  by_cases l : ld P c
  · rw [hW c hc l, en]
    obtain ⟨t, ht, e1, e2⟩ := hl_nat (P.lw k (e5 e (nI n) (nI (c % 8)) (nI (c / 8)) (r (40 + c)))) (n := n) (by omega)
    rw [e1, e2]
    exact ⟨rfl, n, t, hn, ht, rfl, rfl⟩
  · have e0 := hf.2 c hc l
    rw [e0]
    obtain ⟨t1, ht1, -, e2⟩ := hl_nat (P.lw k (e5 e (nI 0) (nI (c % 8)) (nI (c / 8)) (W c))) (n := 0) (by omega)
    obtain ⟨t2, ht2, e1, -⟩ := hl_nat (P.lw k (e5 e (nI 0) (nI (c % 8)) (nI (c / 8)) (r (40 + c)))) (n := 0) (by omega)
    rw [e1, e2, show t1 = 0 by omega, show t2 = 0 by omega]
    exact ⟨rfl, 0, 0, by omega, by omega, rfl, rfl⟩
/-- one step, both ways -/
theorem step_eq {P : Pl} (ok : PlOk P) {e F W r : Nat → Int32} {b : Int32} {B : Nat} (hB : B < 2 ^ 20) (hf : FgOk P B r) (hF : ∀ c, c < 40 → F c = r c) (hW : ∀ c, c < 40 → ld P c → W c = r (40 + c)) : (∀ k, k < 40 → mvS F (tS P e F W 1) (nxS (nI P.wd) (nI P.rw) b) 40 k = stY (tM P e r 1) (nxS (nI P.wd) (nI P.rw) b) P.wd r P.rw k) ∧ FgOk P (80 * B) (fun k => stY (tM P e r 1) (nxS (nI P.wd) (nI P.rw) b) P.wd r P.rw k) := by
  have hw := ok.1
  have hr := ok.2.1
  have ht : ∀ c, c < 40 → tS P e F W 1 c = tM P e r 1 c := fun c hc => (t_eq (by omega) hf hF hW hc).1
  have hn := fun c (hc : c < 40) => (t_eq (k := 1) (e := e) (by omega : B < 2 ^ 31) hf hF hW hc).2
  generalize hT : tM P e r 1 = T at *
  have hN : ∀ c, c < 40 → nxS (nI P.wd) (nI P.rw) b c < 0 ∨ ∃ j, j < 40 ∧ nxS (nI P.wd) (nI P.rw) b c = nI j := fun c _ => (nx_ok ok b c).imp_right (fun ⟨j, h1, _, h2⟩ => ⟨j, h1, h2⟩)
  have hN2 : ∀ c k, tg (nxS (nI P.wd) (nI P.rw) b) c = k → k < 40 → ld P k := by
    intro c k h hk
    rcases nx_ok ok b c with q | ⟨j, hj, l, q⟩
    · unfold tg at h; rw [if_pos q] at h; omega
    · unfold tg at h
      rw [if_neg (by rw [q]; exact nI_pos (by omega)), q, nI_clamp (by omega)] at h
      rw [← h]; exact l
  generalize nxS (nI P.wd) (nI P.rw) b = N at *
  have hm : ∀ k, k < 40 → mvS F (tS P e F W 1) N 40 k = fo (ad (fun c => (if c = k then r c - T c else 0) + (if tg N c = k then T c else 0))) 40 0 := by
    intro k hk
    rw [mvS_c (F' := r) (T' := T) 40 hF ht]
    refine mv_fo hN (fun c hc h0 => ?_) hk 40 (Nat.le_refl _)
    obtain ⟨n, t, h1, h2, e1, e2⟩ := hn c hc
    rw [e1, ← nI_0, nI_leI (by omega) (by omega)] at h0
    rw [e1, e2, show n = 0 by omega, show t = 0 by omega]
    exact ⟨nI_0, nI_0⟩
  have key : ∀ k, k < 40 → mvS F (tS P e F W 1) N 40 k = stY T N P.wd r P.rw k := by
    intro k hk
    rw [hm k hk, stY_fo hw hN hk P.rw hr, fo_ad2, fo_one, if_pos hk]
    rw [← fo_nest (st' := ad (fun c => (if c = k then 0 - T c else 0) + (if tg N c = k then T c else 0))) hw hr (fun c _ _ => rfl) (fun c hc l a => ?_)]
    · rw [fo_ad0 (a := r k), fo_ad2, fo_one, if_pos hk, ← Int32.add_assoc]
      congr 1
      rw [Int32.sub_eq_add_neg, Int32.sub_eq_add_neg, Int32.zero_add]
    · show a + ((if c = k then 0 - T c else 0) + (if tg N c = k then T c else 0)) = a
      obtain ⟨n, t, h1, h2, e1, e2⟩ := hn c hc
      have e0 := hf.2 c hc l
      rw [e0] at e1
      have : n = 0 := by
        have := (nI_eq (a := 0) (b := n) (by omega) (by omega)).mp e1
        omega
      rw [e2, show t = 0 by omega, nI_0]
      split <;> split <;> simp
  refine ⟨key, fun k hk => ?_, fun k hk l => ?_⟩
  · show ∃ n, n ≤ 80 * B ∧ stY T N P.wd r P.rw k = nI n
    rw [← key k hk, hm k hk]
    obtain ⟨q, h1, h2⟩ := fo_nat (g := fun c => (if c = k then r c - T c else 0) + (if tg N c = k then T c else 0)) (M := 2 * B) 40 (fun c hc => by
      obtain ⟨n, t, a1, a2, e1, e2⟩ := hn c hc
      refine ⟨(if c = k then n - t else 0) + (if tg N c = k then t else 0), by split <;> split <;> omega, ?_⟩
      show (if c = k then r c - T c else 0) + (if tg N c = k then T c else 0) = _
      rw [e1, e2, pk_sub a2]
      split <;> split <;> first | (rw [nI_add]; done) | (rw [Nat.add_zero, Int32.add_zero]; done) | (rw [Nat.zero_add, Int32.zero_add]; done) | rfl)
    exact ⟨q, by omega, h2⟩
  · show stY T N P.wd r P.rw k = nI 0
    rw [← key k hk, hm k hk, fo_ad2, fo_one, if_pos hk]
    obtain ⟨n, t, h1, h2, e1, e2⟩ := hn k hk
    have e0 := hf.2 k hk l
    rw [e0] at e1
    have hn0 : n = 0 := by
      have := (nI_eq (a := 0) (b := n) (by omega) (by omega)).mp e1
      omega
    rw [e0, e2, show t = 0 by omega]
    obtain ⟨q, h3, h4⟩ := fo_nat (g := fun c => if tg N c = k then T c else 0) (M := 0) 40 (fun c hc => ⟨0, by omega, by
      show (if tg N c = k then T c else 0) = _
      rw [if_neg (fun q => l (hN2 c k q hk))]; rfl⟩)
    rw [h4, show q = 0 by omega]
    rfl
