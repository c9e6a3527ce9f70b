/-- the tokens from p on, n of them, as code -/
def eR (K V : Nat → Nat) : Nat → Nat → List Nat × Cs → List Nat × Cs
  | 0, _, s => s
  | n + 1, p, s => eR K V n (p + 1) (eTok (K p) (V p) s)
/-- the code of a sum from p to q -/
def suC (K V : Nat → Nat) (p q : Nat) : Cs := (eOut 1 (eR K V (q - p) p ([], [])).1 (eR K V (q - p) p ([], [])).2).2
theorem eOut_app {r : Nat} (C : Cs) : ∀ (W : List Nat) (D : Cs), eOut r W (C ++ D) = ((eOut r W D).1, C ++ (eOut r W D).2)
  | [], D => rfl
  | k :: W, D => by
    by_cases a : r ≤ rnk k
    · rw [show eOut r (k :: W) (C ++ D) = eOut r W (C ++ D ++ [(k - 25, 0)]) from if_pos a, show eOut r (k :: W) D = eOut r W (D ++ [(k - 25, 0)]) from if_pos a, List.append_assoc]
      exact eOut_app C W _
    · rw [show eOut r (k :: W) (C ++ D) = (k :: W, C ++ D) from if_neg a, show eOut r (k :: W) D = (k :: W, D) from if_neg a]
theorem eTok_app {k v : Nat} (C : Cs) (W : List Nat) (D : Cs) : eTok k v (W, C ++ D) = ((eTok k v (W, D)).1, C ++ (eTok k v (W, D)).2) := by
  unfold eTok
  by_cases a : k = 24
  · rw [if_pos a, if_pos a, List.append_assoc]
  rw [if_neg a, if_neg a]
  by_cases b : 14 ≤ k ∧ k ≤ 22
  · rw [if_pos b, if_pos b, List.append_assoc]
  rw [if_neg b, if_neg b]
  by_cases c : k = 32
  · rw [if_pos c, if_pos c]
  rw [if_neg c, if_neg c]
  by_cases d : k = 33
  · rw [if_pos d, if_pos d]
    rw [show eOut 1 (W, C ++ D).1 (W, C ++ D).2 = eOut 1 W (C ++ D) from rfl, eOut_app]
  rw [if_neg d, if_neg d]
  by_cases e : 0 < rnk k
  · rw [if_pos e, if_pos e, show eOut (rnk k) (W, C ++ D).1 (W, C ++ D).2 = eOut (rnk k) W (C ++ D) from rfl, eOut_app]
  · rw [if_neg e, if_neg e]
theorem eR_app {K V : Nat → Nat} (C : Cs) : ∀ (n p : Nat) (W : List Nat) (D : Cs), eR K V n p (W, C ++ D) = ((eR K V n p (W, D)).1, C ++ (eR K V n p (W, D)).2)
  | 0, _, _, _ => rfl
  | n + 1, p, W, D => by
    show eR K V n (p + 1) (eTok (K p) (V p) (W, C ++ D)) = ((eR K V n (p + 1) (eTok (K p) (V p) (W, D))).1, C ++ (eR K V n (p + 1) (eTok (K p) (V p) (W, D))).2)
    rw [eTok_app]
    exact eR_app C n (p + 1) _ _
theorem eR_s {K V : Nat → Nat} {n p : Nat} {s : List Nat × Cs} : eR K V (n + 1) p s = eR K V n (p + 1) (eTok (K p) (V p) s) := rfl
/-- what comes out of a sum's end -/
theorem suC_app {K V : Nat → Nat} {p q : Nat} (C : Cs) : (eOut 1 (eR K V (q - p) p ([], C)).1 (eR K V (q - p) p ([], C)).2).2 = C ++ suC K V p q := by
  have h := eR_app (K := K) (V := V) C (q - p) p [] []
  rw [List.append_nil] at h
  rw [h]
  show (eOut 1 (eR K V (q - p) p ([], [])).1 (C ++ (eR K V (q - p) p ([], [])).2)).2 = _
  rw [eOut_app]
  rfl
theorem eOut_c {r : Nat} (hr : 0 < r) : ∀ (W : List Nat) (C : Cs) (q : Nat), eS q W → wfC 21 0 C (nO W + 1) → wfC 21 0 (eOut r W C).2 (nO (eOut r W C).1 + 1)
  | [], _, _, _, h => h
  | k :: W, C, q, w, h => by
    by_cases a : r ≤ rnk k
    · rw [show eOut r (k :: W) C = eOut r W (C ++ [(k - 25, 0)]) from if_pos a]
      have e : ¬ k = 32 := fun z => by rw [z, rnk_32] at a; omega
      have ho := rnk_o (show 0 < rnk k by omega)
      have hn : nO (k :: W) = 1 + nO W := by show (if k = 32 then 0 else 1) + nO W = _; rw [if_neg e]
      rw [hn] at h
      rcases w with ⟨z, _⟩ | ⟨_, _, h3⟩
      · exact absurd z e
      · refine eOut_c hr W _ _ h3 (wfC_app C _ _ _ _ h (Or.inr (Or.inr ⟨by show 2 ≤ k - 25; omega, ⟨by show k - 25 ≤ 5; omega, rfl⟩, by omega, ?_⟩)))
        show 1 + nO W + 1 - 1 = nO W + 1
        omega
    · rw [show eOut r (k :: W) C = (k :: W, C) from if_neg a]; exact h
/-- a sum, as it is made: brackets, is a value due -/
def SI (d : Nat) (due : Bool) (s : List Nat × Cs) : Prop := eS 3 s.1 ∧ nB s.1 = d ∧ wfC 21 0 s.2 (nO s.1 + if due = true then 0 else 1)
theorem SI.len {d : Nat} {due : Bool} {s : List Nat × Cs} (h : SI d due s) (hd : d ≤ 6) : s.1.length ≤ 20 := by
  have := w_len s.1 3 (by decide) h.1
  rw [h.2.1] at this
  omega
theorem SI.brk {d v : Nat} {s : List Nat × Cs} (h : SI d true s) : SI (d + 1) true (eTok 32 v s) := by
  obtain ⟨W, D⟩ := s
  refine ⟨Or.inl ⟨rfl, h.1⟩, ?_, ?_⟩
  · show 1 + nB W = d + 1
    rw [h.2.1]; omega
  · show wfC 21 0 D (0 + nO W + 0)
    have := h.2.2
    rw [show 0 + nO W + 0 = nO W by omega]
    exact this
theorem SI.unit {d k v : Nat} {s : List Nat × Cs} (h : SI d true s) (hd : d ≤ 6) (hk : isU k) (hv : k = 24 → v < 65536) : SI d false (eTok k v s) := by
  have hl := h.len hd
  obtain ⟨W, D⟩ := s
  have hn := w_no W
  have hl : W.length ≤ 20 := hl
  rw [eTok_u hk]
  refine ⟨h.1, h.2.1, ?_⟩
  show wfC 21 0 (D ++ [if k = 24 then (0, v) else (1, k - 14)]) (nO W + 1)
  refine wfC_app D _ 0 (nO W) _ h.2.2 ?_
  by_cases e : k = 24
  · rw [if_pos e]
    exact Or.inl ⟨rfl, hv e, by omega, rfl⟩
  · rw [if_neg e]
    refine Or.inr (Or.inl ⟨rfl, ?_, by omega, rfl⟩)
    show k - 14 < 9
    unfold isU at hk
    omega
theorem SI.op {d k v : Nat} {s : List Nat × Cs} (h : SI d false s) (hk : isOp k) : SI d true (eTok k v s) := by
  obtain ⟨W, D⟩ := s
  have hr := rnk_p hk
  have hr2 := rnk_le k
  have e : ¬ k = 32 := by unfold isOp at hk; omega
  rw [eTok_o hr]
  obtain ⟨a, b, c⟩ := eOut_w hr W D 3 h.1
  have hc := eOut_c hr W D 3 h.1 h.2.2
  refine ⟨Or.inr ⟨hr, by omega, a⟩, ?_, ?_⟩
  · show (if k = 32 then 1 else 0) + nB (eOut (rnk k) W D).1 = d
    rw [if_neg e, b, show nB W = d from h.2.1]; omega
  · show wfC 21 0 (eOut (rnk k) W D).2 ((if k = 32 then 0 else 1) + nO (eOut (rnk k) W D).1 + 0)
    rw [if_neg e, show 1 + nO (eOut (rnk k) W D).1 + 0 = nO (eOut (rnk k) W D).1 + 1 by omega]
    exact hc
theorem SI.close {d v : Nat} {s : List Nat × Cs} (h : SI d false s) (hd : 0 < d) : SI (d - 1) false (eTok 33 v s) := by
  obtain ⟨W, D⟩ := s
  obtain ⟨a, b, c⟩ := eOut_w (r := 1) (by decide) W D 3 h.1
  have hc := eOut_c (r := 1) (by decide) W D 3 h.1 h.2.2
  have hb : nB W = d := h.2.1
  rw [eTok_e]
  rcases eS_1 a with e | ⟨T, e, t⟩
  · rw [e] at b
    have b : 0 = nB W := b
    omega
  · rw [e] at b hc
    have b : 1 + nB T = nB W := b
    have hc : wfC 21 0 (eOut 1 W D).2 (0 + nO T + 1) := hc
    rw [Nat.zero_add] at hc
    rw [e]
    exact ⟨t, by show nB T = d - 1; omega, hc⟩
theorem SI.end {s : List Nat × Cs} (h : SI 0 false s) : (eOut 1 s.1 s.2).1 = [] ∧ okC (eOut 1 s.1 s.2).2 := by
  obtain ⟨a, b, c⟩ := eOut_w (r := 1) (by decide) s.1 s.2 3 h.1
  have hc := eOut_c (r := 1) (by decide) s.1 s.2 3 h.1 h.2.2
  rcases eS_1 a with e | ⟨T, e, t⟩
  · rw [e] at hc
    exact ⟨e, hc⟩
  · rw [e, h.2.1] at b
    have b : 1 + nB T = 0 := b
    omega
theorem gSum_f {K : Nat → Nat} {n d : Nat} {due : Bool} {s : Nat × Nat} (h : s.1 ≠ 0) : gSum K n d due s = s := by
  cases n with
  | zero => rfl
  | succ n => rw [gSum, if_pos h]
theorem gTk_c {K : Nat → Nat} {k p : Nat} : (gTk K k (0, p) = (0, p + 1) ∧ K p = k ∧ p < 400) ∨ (gTk K k (0, p)).1 ≠ 0 := by
  unfold gTk
  rw [if_neg (fun w => w rfl)]
  by_cases a : K p ≠ k
  · rw [if_pos a]; exact Or.inr (Nat.succ_ne_zero _)
  · rw [if_neg a]
    by_cases b : 400 ≤ p
    · rw [if_pos b]; exact Or.inr (Nat.succ_ne_zero _)
    · rw [if_neg b]; exact Or.inl ⟨rfl, Classical.not_not.mp a, by omega⟩
/-- a token of a sum -/
abbrev sT (k : Nat) : Prop := k = 24 ∨ (14 ≤ k ∧ k ≤ 22) ∨ (27 ≤ k ∧ k ≤ 30) ∨ k = 32 ∨ k = 33
theorem su_i {K V : Nat → Nat} (hV : ∀ j, K j = 24 → V j < 65536) : ∀ (f d : Nat) (due : Bool) (p q : Nat) (s : List Nat × Cs), gSum K f d due (0, p) = (0, q) → 401 ≤ f + p → p ≤ 400 → d ≤ 6 → SI d due s → p ≤ q ∧ q ≤ 400 ∧ ¬ isOp (K q) ∧ (∀ i, i < q - p → sT (K (p + i)) ∧ (eR K V i p s).1.length ≤ 20) ∧ SI 0 false (eR K V (q - p) p s) ∧ (due = true → p < q)
  | 0, d, due, p, q, s, h, hf, hp, hd, hs => by omega
  | f + 1, d, due, p, q, s, h, hf, hp, hd, hs => by
    have one : ∀ (d' : Nat) (due' : Bool), gSum K f d' due' (0, p + 1) = (0, q) → p < 400 → sT (K p) → d' ≤ 6 → SI d' due' (eTok (K p) (V p) s) → p ≤ q ∧ q ≤ 400 ∧ ¬ isOp (K q) ∧ (∀ i, i < q - p → sT (K (p + i)) ∧ (eR K V i p s).1.length ≤ 20) ∧ SI 0 false (eR K V (q - p) p s) ∧ (due = true → p < q) := by
      intro d' due' h2 hp4 ht hd' hs'
      obtain ⟨a, b, c, e, g, _⟩ := su_i hV f d' due' (p + 1) q _ h2 (by omega) (by omega) hd' hs'
      refine ⟨by omega, b, c, fun i hi => ?_, ?_, fun _ => by omega⟩
      · cases i with
        | zero => exact ⟨ht, hs.len hd⟩
        | succ i =>
          have := e i (by omega)
          rw [show p + 1 + i = p + (i + 1) by omega] at this
          exact this
      · rw [show q - p = (q - (p + 1)) + 1 by omega]
        exact g
    rw [gSum, if_neg (fun w => w rfl)] at h
    cases due with
    | true =>
      rw [if_pos rfl] at h
      have h : (if K p = 32 then gSum K f (d + 1) true (gTk K 32 (if 6 < d + 1 then (2, p) else (0, p))) else gSum K f d false (gTk K (if isU (K p) then K p else 24) (0, p))) = (0, q) := h
      by_cases e : K p = 32
      · rw [if_pos e] at h
        by_cases d6 : 6 < d + 1
        · rw [if_pos d6, show gTk K 32 (2, p) = (2, p) from if_pos (Nat.succ_ne_zero _), gSum_f (Nat.succ_ne_zero _)] at h
          cases h
        · rw [if_neg d6] at h
          rcases gTk_c (K := K) (k := 32) (p := p) with ⟨e1, e2, e3⟩ | e1
          · rw [e1] at h
            refine one (d + 1) true h e3 (by rw [e]; decide) (by omega) ?_
            rw [e]
            exact hs.brk
          · rw [gSum_f e1] at h
            rw [h] at e1
            exact absurd rfl e1
      · rw [if_neg e] at h
        rcases gTk_c (K := K) (k := if isU (K p) then K p else 24) (p := p) with ⟨e1, e2, e3⟩ | e1
        · rw [e1] at h
          have hu : isU (K p) := by
            by_cases w : isU (K p)
            · exact w
            · rw [if_neg w] at e2
              exact Or.inl e2
          exact one d false h e3 (by unfold isU at hu; unfold sT; omega) hd (hs.unit hd hu (hV p))
        · rw [gSum_f e1] at h
          rw [h] at e1
          exact absurd rfl e1
    | false =>
      rw [if_neg (by decide)] at h
      have h : (if isOp (K p) then gSum K f d true (gTk K (K p) (0, p)) else if 0 < d then gSum K f (d - 1) false (gTk K 33 (0, p)) else (0, p)) = (0, q) := h
      by_cases e : isOp (K p)
      · rw [if_pos e] at h
        rcases gTk_c (K := K) (k := K p) (p := p) with ⟨e1, e2, e3⟩ | e1
        · rw [e1] at h
          exact one d true h e3 (by unfold isOp at e; unfold sT; omega) hd (hs.op e)
        · rw [gSum_f e1] at h
          rw [h] at e1
          exact absurd rfl e1
      · rw [if_neg e] at h
        by_cases d0 : 0 < d
        · rw [if_pos d0] at h
          rcases gTk_c (K := K) (k := 33) (p := p) with ⟨e1, e2, e3⟩ | e1
          · rw [e1] at h
            refine one (d - 1) false h e3 (by rw [e2]; decide) (by omega) ?_
            rw [e2]
            exact hs.close d0
          · rw [gSum_f e1] at h
            rw [h] at e1
            exact absurd rfl e1
        · rw [if_neg d0] at h
          cases h
          have hd0 : d = 0 := by omega
          subst hd0
          refine ⟨Nat.le_refl _, hp, e, fun i hi => by omega, ?_, fun z => by cases z⟩
          rw [Nat.sub_self]
          exact hs
/-- a sum that stands: where it ends, its code -/
theorem su_ok {K V : Nat → Nat} (hV : ∀ j, K j = 24 → V j < 65536) {p q : Nat} (h : gS K (0, p) = (0, q)) (hp : p ≤ 400) : p < q ∧ q ≤ 400 ∧ (∀ i, i < q - p → sT (K (p + i)) ∧ (eR K V i p ([], [])).1.length ≤ 20) ∧ SI 0 false (eR K V (q - p) p ([], [])) ∧ okC (suC K V p q) := by
  obtain ⟨a, b, c, d, e, g⟩ := su_i hV 401 0 true p q ([], []) h (by omega) hp (by decide) ⟨True.intro, rfl, rfl⟩
  exact ⟨g rfl, b, d, e, e.end.2⟩
