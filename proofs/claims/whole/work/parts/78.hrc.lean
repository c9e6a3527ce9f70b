/-! an hour later: only the row's 105 numbers count -/
def Er (r r' : Nat → Int32) : Prop := ∀ k, k < 105 → r k = r' k
theorem stX_cc {T T' N ft ft' : Nat → Int32} {y : Nat} (hy : y < 5) (hN : ∀ c, c < 40 → N c < 0 ∨ ∃ j, j < 40 ∧ N c = nI j) (hT : ∀ c, c < 40 → T c = T' c) (hf : Er ft ft') : ∀ x, x ≤ 8 → Er (stX T N y ft x) (stX T' N y ft' x)
  | 0, _ => hf
  | x + 1, q => by
    have ih := stX_cc hy hN hT hf x (by omega)
    have a : Er (upd (stX T N y ft x) (8 * y + x) (stX T N y ft x (8 * y + x) - T (8 * y + x))) (upd (stX T' N y ft' x) (8 * y + x) (stX T' N y ft' x (8 * y + x) - T' (8 * y + x))) := upd_lt ih (by rw [ih _ (by omega), hT _ (by omega)])
    unfold stX
    rcases hN (8 * y + x) (by omega) with h | ⟨j, hj, h⟩
    · rw [if_pos h, if_pos h]; exact a
    · have h2 : ¬ N (8 * y + x) < 0 := by rw [h]; exact nI_pos (by omega)
      rw [if_neg h2, if_neg h2]
      refine upd_lt a ?_
      rw [h, nI_clamp (by omega), a j (by omega), hT _ (by omega)]
theorem stY_cc {T T' N ft ft' : Nat → Int32} {wd : Nat} (hw : wd ≤ 8) (hN : ∀ c, c < 40 → N c < 0 ∨ ∃ j, j < 40 ∧ N c = nI j) (hT : ∀ c, c < 40 → T c = T' c) (hf : Er ft ft') : ∀ y, y ≤ 5 → Er (stY T N wd ft y) (stY T' N wd ft' y)
  | 0, _ => hf
  | y + 1, q => stX_cc (by omega) hN hT (stY_cc hw hN hT hf y (by omega)) wd hw
theorem tM_c {P : Pl} {e r r' : Nat → Int32} {k c : Nat} (hc : c < 40) (h : Er r r') : tM P e r k c = tM P e r' k c := by
  unfold tM
  rw [h c (by omega), h (40 + c) (by omega)]
theorem r1M_c {P : Pl} (ok : PlOk P) {b : Int32} {r r' : Nat → Int32} (h : Er r r') : Er (r1M P b r) (r1M P b r') := by
  intro k hk
  unfold r1M
  by_cases q : k < 40
  · rw [if_pos q, if_pos q, h 104 (by omega)]
    exact stY_cc ok.1 (fun c hc => (nx_ok ok b c).imp id (fun ⟨j, a, _, d⟩ => ⟨j, a, d⟩)) (fun c hc => tM_c hc h) h P.rw ok.2.1 k hk
  · rw [if_neg q, if_neg q]; exact h k hk
theorem f1M_c {P : Pl} (ok : PlOk P) {lo : Int32} {r r' : Nat → Int32} (h : Er r r') : Er (f1M P lo r) (f1M P lo r') := by
  intro k hk
  unfold f1M
  rw [h 104 (by omega)]
  split
  · exact h k hk
  · split
    · exact r1M_c ok h k hk
    · exact r1M_c ok (r1M_c ok h) k hk
theorem r2M_c {P : Pl} {b la : Int32} {r r' : Nat → Int32} (h : Er r r') : Er (r2M P b la r) (r2M P b la r') := by
  intro k hk
  unfold r2M
  by_cases q : prD P P.rw 0 k
  · rw [pwD_t q, pwD_t q]
    unfold thM
    rw [h 104 (by omega), h k hk, tM_c q.1 h]
  · rw [pwD_f q, pwD_f q]; exact h k hk
theorem hrM_c {P : Pl} (ok : PlOk P) {la lo : Int32} {r r' : Nat → Int32} (h : Er r r') : Er (hrM P la lo r) (hrM P la lo r') := by
  have e : Er (r3M (r2M P (wM P (r 104)) la (f1M P lo r))) (r3M (r2M P (wM P (r' 104)) la (f1M P lo r'))) := by
    rw [h 104 (by omega)]
    have a := r2M_c (P := P) (b := wM P (r' 104)) (la := la) (f1M_c ok (lo := lo) h)
    exact upd_lt a (by rw [a 104 (by omega)])
  intro k hk
  unfold hrM
  rw [e 104 (by omega)]
  split
  · unfold r4M
    by_cases q : 80 ≤ k ∧ k < 80 + P.hd
    · rw [if_pos q, if_pos q]
      have hd := ok.2.2.1
      unfold gvM
      rw [e (80 + (k - 80)) (by omega), e 104 (by omega), fgY_c ok.1 P.rw ok.2.1 (fun c hc => ⟨e c (by omega), e (40 + c) (by omega)⟩)]
    · rw [if_neg q, if_neg q]; exact e k hk
  · exact e k hk
theorem hrN_c {P : Pl} (ok : PlOk P) {la lo : Int32} {r r' : Nat → Int32} (h : Er r r') : ∀ n, Er (hrN P la lo n r) (hrN P la lo n r')
  | 0 => h
  | n + 1 => hrM_c ok (hrN_c ok h n)
theorem hrM_40 {P : Pl} {lo : Int32} {r : Nat → Int32} : hrM P (nI 40) lo r = hrM P (-1) lo r := by
  have e : ∀ b a, r2M P b (nI 40) a = r2M P b (-1) a := fun b a => by
    funext k
    unfold r2M
    by_cases q : prD P P.rw 0 k
    · rw [pwD_t q, pwD_t q]
      unfold thM
      have := q.1
      rw [if_neg (fun z => by have := (nI_eq (show k < 2 ^ 31 by omega) (by decide)).mp z; omega), if_neg (fun z => i1m k (by omega) z.symm)]
    · rw [pwD_f q, pwD_f q]
  unfold hrM
  rw [e]
theorem hrN_40 {P : Pl} {lo : Int32} {r : Nat → Int32} : ∀ n, hrN P (nI 40) lo n r = hrN P (-1) lo n r
  | 0 => rfl
  | n + 1 => by
    show hrM P (nI 40) lo (hrN P (nI 40) lo n r) = hrM P (-1) lo (hrN P (-1) lo n r)
    rw [hrN_40 n, hrM_40]
theorem bgM_ok {P : Pl} (ok : PlOk P) : RoOk P 0 (bgM P) := by
  have h1 := ok.2.2.2.2.2.2.1
  have h2 := ok.2.2.2.2.2.2.2.1
  have h3 := ok.2.2.2.2.2.2.2.2.1
  have h4 := ok.2.2.2.2.2.2.2.2.2.1
  refine ⟨⟨fun c hc => ?_, fun c hc l => ?_⟩, fun c hc l => ?_, fun h hh => ?_, 0, Nat.le_refl _, ?_⟩
  · unfold bgM
    rw [if_pos hc]
    by_cases l : ld P c
    · rw [if_pos l]; exact h4 c hc
    · rw [if_neg l]; exact ⟨0, by omega, rfl⟩
  · unfold bgM
    rw [if_pos hc, if_neg l]
  · unfold bgM
    rw [if_neg (by omega), if_pos (by omega), show 40 + c - 40 = c by omega, if_pos l]
    exact h3 c hc l
  · unfold bgM
    rw [if_neg (by omega), if_neg (by omega), if_pos (by omega), show 80 + h - 80 = h by omega]
    by_cases q : h < P.hd
    · exact h2 h q
    · exact ⟨0, by omega, (h1 h (by omega) hh).2⟩
  · rfl
theorem bgS_cr {P : Pl} {m : Me} {pl : Nat} (ok : PlOk P) (h : PlC m pl P) : CR P (bgS m pl) (bgM P) := by
  intro k hk
  unfold bgS bgM
  by_cases q1 : k < 40
  · rw [if_pos q1, if_neg (by omega), if_pos q1, h.fo k q1]
  · rw [if_neg q1]
    by_cases q2 : k < 80
    · rw [if_pos q2, h.wh (k - 40) (by omega)]
      by_cases l : ld P (k - 40)
      · rw [if_pos l, if_neg (fun z => z.2.2 l), if_neg q1, if_pos q2, if_pos l]
      · rw [if_neg l, if_pos ⟨by omega, q2, l⟩]
    · rw [if_neg q2, if_neg (show ¬ (40 ≤ k ∧ k < 80 ∧ ¬ ld P (k - 40)) from fun z => q2 z.2.1), if_neg q1, if_neg q2]
      by_cases q3 : k < 84
      · rw [if_pos q3, if_pos q3, (h.rs (k - 80) (by omega)).2]
      · rw [if_neg q3, if_neg q3]
/-- what is told: cells, hours, fog -/
def Td (m : Me) (a b c : Nat) (t : Nat) (tc th tf : Nat → Nat) : Prop := ∀ i, i < t → gI m a i = nI (tc i) ∧ gI m b i = nI (th i) ∧ gI m c i = nI (tf i)
def TdO (P : Pl) (t : Nat) (tc th tf : Nat → Nat) : Prop := t ≤ 20 ∧ ∀ i, i < t → tc i < 40 ∧ ld P (tc i) ∧ th i ≤ 24 ∧ tf i ≤ 99
/-- how it lies, with one that leaks, behind so many hours -/
noncomputable def lkR (P : Pl) (s n : Nat) : Nat → Int32 := hrN P (nI s) P.se n (bgM P)
/-- one that may leak still, by the first k, so far as they were measured ahead of hour h -/
def Lf (P : Pl) (k : Nat) (tc th tf : Nat → Nat) (s h : Nat) : Prop := (s = 40 ∨ ld P s) ∧ ∀ i, i < k → th i < h → lkR P s (th i) (tc i) = nI (tf i)
theorem Lf_s {P : Pl} {k : Nat} {tc th tf : Nat → Nat} {s h : Nat} : Lf P k tc th tf s (h + 1) ↔ (Lf P k tc th tf s h ∧ ∀ i, i < k → th i = h → lkR P s h (tc i) = nI (tf i)) := by
  constructor
  · rintro ⟨a, b⟩
    exact ⟨⟨a, fun i hi hh => b i hi (by omega)⟩, fun i hi hh => by have := b i hi (by omega); rw [hh] at this; exact this⟩
  · rintro ⟨⟨a, b⟩, c⟩
    refine ⟨a, fun i hi hh => ?_⟩
    by_cases e : th i = h
    · have := c i hi e
      rw [e]; exact this
    · exact b i hi (by omega)
theorem Lf_mono {P : Pl} {k : Nat} {tc th tf : Nat → Nat} {s h h' : Nat} (q : h ≤ h') (a : Lf P k tc th tf s h') : Lf P k tc th tf s h := ⟨a.1, fun i hi z => a.2 i hi (by omega)⟩
theorem Lf_all {P : Pl} {k : Nat} {tc th tf : Nat → Nat} {s h h' : Nat} (q : ∀ i, i < k → th i < h) (a : Lf P k tc th tf s h) : Lf P k tc th tf s h' := ⟨a.1, fun i hi _ => a.2 i hi (q i hi)⟩
