/-! a straight code, run on a pile (the newest first); none: it breaks -/
abbrev Cs : Type := List (Nat × Nat)
def rnC (v : Nat → Int32) : Cs → List Int32 → Option (List Int32)
  | [], st => some st
  | c :: C, st => if c.1 = 0 then rnC v C (nI c.2 :: st) else if c.1 = 1 then rnC v C (v c.2 :: st) else match st with
    | y :: x :: st' => if c.1 = 5 ∧ y = 0 then none else rnC v C (jo (nI c.1) x y :: st')
    | _ => none
/-- it takes no more than lies there, and holds no more than b: from h to g -/
def wfC (b : Nat) : Nat → Cs → Nat → Prop
  | h, [], g => h = g
  | h, c :: C, g => (c.1 = 0 ∧ c.2 < 65536 ∧ h < b ∧ wfC b (h + 1) C g) ∨ (c.1 = 1 ∧ c.2 < 9 ∧ h < b ∧ wfC b (h + 1) C g) ∨ (2 ≤ c.1 ∧ (c.1 ≤ 5 ∧ c.2 = 0) ∧ 2 ≤ h ∧ wfC b (h - 1) C g)
theorem wfC_app {b : Nat} : ∀ (C D : Cs) (h g e : Nat), wfC b h C g → wfC b g D e → wfC b h (C ++ D) e
  | [], D, h, g, e, h1, h2 => by
    have h1 : h = g := h1
    subst h1
    exact h2
  | c :: C, D, h, g, e, h1, h2 => by
    rcases h1 with ⟨a, x, d, k⟩ | ⟨a, x, d, k⟩ | ⟨a, x, d, k⟩
    · exact Or.inl ⟨a, x, d, wfC_app C D _ g e k h2⟩
    · exact Or.inr (Or.inl ⟨a, x, d, wfC_app C D _ g e k h2⟩)
    · exact Or.inr (Or.inr ⟨a, x, d, wfC_app C D _ g e k h2⟩)
theorem wfC_sh {b k : Nat} : ∀ (C : Cs) (h g : Nat), wfC b h C g → wfC (b + k) (h + k) C (g + k)
  | [], h, g, h1 => by
    have h1 : h = g := h1
    subst h1
    rfl
  | c :: C, h, g, h1 => by
    rcases h1 with ⟨a, x, d, q⟩ | ⟨a, x, d, q⟩ | ⟨a, x, d, q⟩
    · refine Or.inl ⟨a, x, by omega, ?_⟩
      have := wfC_sh (k := k) C (h + 1) g q
      rw [show h + 1 + k = h + k + 1 by omega] at this
      exact this
    · refine Or.inr (Or.inl ⟨a, x, by omega, ?_⟩)
      have := wfC_sh (k := k) C (h + 1) g q
      rw [show h + 1 + k = h + k + 1 by omega] at this
      exact this
    · refine Or.inr (Or.inr ⟨a, x, by omega, ?_⟩)
      have := wfC_sh (k := k) C (h - 1) g q
      rw [show h - 1 + k = h + k - 1 by omega] at this
      exact this
theorem wfC_mn {b b' : Nat} (hb : b ≤ b') : ∀ (C : Cs) (h g : Nat), wfC b h C g → wfC b' h C g
  | [], _, _, h1 => h1
  | c :: C, h, g, h1 => by
    rcases h1 with ⟨a, x, d, q⟩ | ⟨a, x, d, q⟩ | ⟨a, x, d, q⟩
    · exact Or.inl ⟨a, x, by omega, wfC_mn hb C _ g q⟩
    · exact Or.inr (Or.inl ⟨a, x, by omega, wfC_mn hb C _ g q⟩)
    · exact Or.inr (Or.inr ⟨a, x, d, wfC_mn hb C _ g q⟩)
theorem rnC_0 {v : Nat → Int32} {c : Nat × Nat} {C : Cs} {L : List Int32} (h : c.1 = 0) : rnC v (c :: C) L = rnC v C (nI c.2 :: L) := if_pos h
theorem rnC_1 {v : Nat → Int32} {c : Nat × Nat} {C : Cs} {L : List Int32} (h : c.1 = 1) : rnC v (c :: C) L = rnC v C (v c.2 :: L) := (if_neg (by omega)).trans (if_pos h)
theorem rnC_2 {v : Nat → Int32} {c : Nat × Nat} {C : Cs} {x y : Int32} {L : List Int32} (h : 2 ≤ c.1) : rnC v (c :: C) (y :: x :: L) = if c.1 = 5 ∧ y = 0 then none else rnC v C (jo (nI c.1) x y :: L) := (if_neg (by omega)).trans (if_neg (by omega))
/-- what lies below stays -/
theorem rnC_fr {v : Nat → Int32} {b : Nat} (S : List Int32) : ∀ (C : Cs) (L : List Int32) (g : Nat), wfC b L.length C g → rnC v C (L ++ S) = (rnC v C L).map (fun T => T ++ S) ∧ ∀ L', rnC v C L = some L' → L'.length = g
  | [], L, g, h => ⟨rfl, fun L' e => by
    have h : L.length = g := h
    cases e
    exact h⟩
  | c :: C, L, g, h => by
    rcases h with ⟨a, x, d, q⟩ | ⟨a, x, d, q⟩ | ⟨a, x, d, q⟩
    · rw [rnC_0 a, rnC_0 a]
      exact rnC_fr S C (nI c.2 :: L) g q
    · rw [rnC_1 a, rnC_1 a]
      exact rnC_fr S C (v c.2 :: L) g q
    · match L, d, q with
      | y :: z :: L, d, q =>
        rw [show (y :: z :: L) ++ S = y :: z :: (L ++ S) from rfl, rnC_2 a, rnC_2 a]
        by_cases e : c.1 = 5 ∧ y = 0
        · rw [if_pos e, if_pos e]
          exact ⟨rfl, fun L' w => by cases w⟩
        · rw [if_neg e, if_neg e]
          exact rnC_fr S C (jo (nI c.1) z y :: L) g q
/-- the pile, as it lies in an array: the oldest at 0 -/
def Sm (p : Nat → Int32) (L : List Int32) : Prop := ∀ i x, L.reverse[i]? = some x → p i = x
theorem Sm.push {p : Nat → Int32} {L : List Int32} {x : Int32} (h : Sm p L) : Sm (upd p L.length x) (x :: L) := by
  intro i y hy
  rw [List.reverse_cons] at hy
  by_cases q : i < L.length
  · rw [List.getElem?_append_left (by rw [List.length_reverse]; exact q)] at hy
    rw [pk_un (by omega)]
    exact h i y hy
  · rw [List.getElem?_append_right (by rw [List.length_reverse]; omega), List.length_reverse] at hy
    by_cases e : i = L.length
    · subst e
      rw [Nat.sub_self] at hy
      cases hy
      exact pk_us
    · rw [List.getElem?_eq_none (by show 1 ≤ _; omega)] at hy
      cases hy
theorem Sm.pop {p : Nat → Int32} {L : List Int32} {x : Int32} (h : Sm p (x :: L)) : Sm p L := fun i y hy => h i y (by
  rw [List.reverse_cons, List.getElem?_append_left (List.getElem?_eq_some_iff.mp hy).1]
  exact hy)
theorem Sm.top {p : Nat → Int32} {L : List Int32} {x : Int32} (h : Sm p (x :: L)) : p L.length = x := h _ _ (by
  rw [List.reverse_cons, List.getElem?_append_right (by rw [List.length_reverse]; omega), List.length_reverse, Nat.sub_self]
  rfl)
theorem Sm.join {p : Nat → Int32} {L : List Int32} {x y z : Int32} (h : Sm p (y :: x :: L)) : Sm (upd p L.length z) (z :: L) := h.pop.pop.push
/-! a law: its branches (left, right, then), its last term -/
abbrev Br : Type := Cs × Cs × Cs
def vaC (v : Nat → Int32) (C : Cs) : Option Int32 := (rnC v C []).bind List.head?
def lwP (v : Nat → Int32) : List Br → Cs → Int32
  | [], e => (vaC v e).getD (nI 0)
  | b :: bs, e => match vaC v b.1, vaC v b.2.1 with
    | some x, some y => if x < y then (vaC v b.2.2).getD (nI 0) else lwP v bs e
    | _, _ => nI 0
abbrev okC (C : Cs) : Prop := wfC 21 0 C 1
def okB (b : Br) : Prop := okC b.1 ∧ okC b.2.1 ∧ okC b.2.2
theorem vaC_c {v : Nat → Int32} {C : Cs} (ok : okC C) : (vaC v C = none ∧ rnC v C [] = none) ∨ ∃ x, vaC v C = some x ∧ rnC v C [] = some [x] := by
  unfold vaC
  have h := (rnC_fr (v := v) [] C [] 1 ok).2
  cases e : rnC v C [] with
  | none => exact Or.inl ⟨rfl, rfl⟩
  | some L =>
    have hl := h L e
    match L, hl with
    | [x], _ => exact Or.inr ⟨x, rfl, rfl⟩
theorem ap_l {α : Type} {A B : List α} {i : Nat} {x : α} (h : A[i]? = some x) : (A ++ B)[i]? = some x := by rw [List.getElem?_append_left (List.getElem?_eq_some_iff.mp h).1]; exact h
theorem ap_r {α : Type} {A B : List α} {i : Nat} {x : α} (h : B[i]? = some x) : (A ++ B)[A.length + i]? = some x := by rw [List.getElem?_append_right (Nat.le_add_right _ _), Nat.add_sub_cancel_left]; exact h
theorem wfT_run {code ci : Nat → Int32} : ∀ (C : Cs) (c h : Nat), (∀ i x, C[i]? = some x → code (c + i) = nI x.1 ∧ ci (c + i) = nI x.2) → wfC 21 h C 1 → wfT code ci C.length c h
  | [], _, _, _, h => h
  | x :: C, c, h, hc, hw => by
    have h0 := hc 0 x rfl
    rw [Nat.add_zero] at h0
    have hc2 : ∀ i d, C[i]? = some d → code (c + 1 + i) = nI d.1 ∧ ci (c + 1 + i) = nI d.2 := fun i d hd => by
      rw [show c + 1 + i = c + (i + 1) by omega]
      exact hc (i + 1) d hd
    rcases hw with ⟨e, a, d, q⟩ | ⟨e, a, d, q⟩ | ⟨e, a, d, q⟩
    · exact Or.inl ⟨by rw [h0.1, e], by omega, wfT_run C (c + 1) (h + 1) hc2 q⟩
    · exact Or.inr (Or.inl ⟨by rw [h0.1, e], by omega, ⟨x.2, a, h0.2⟩, wfT_run C (c + 1) (h + 1) hc2 q⟩)
    · refine Or.inr (Or.inr ⟨?_, d, wfT_run C (c + 1) (h - 1) hc2 q⟩)
      rw [h0.1]
      rcases (show x.1 = 2 ∨ x.1 = 3 ∨ x.1 = 4 ∨ x.1 = 5 by omega) with k | k | k | k
      · exact Or.inl (by rw [k])
      · exact Or.inr (Or.inl (by rw [k]))
      · exact Or.inr (Or.inr (Or.inl (by rw [k])))
      · exact Or.inr (Or.inr (Or.inr (by rw [k])))
/-- the reference's machine over a straight code -/
theorem tm_run {code ci v : Nat → Int32} : ∀ (C : Cs) (c g : Nat) (L : List Int32) (p : Nat → Int32), (∀ i x, C[i]? = some x → code (c + i) = nI x.1 ∧ ci (c + i) = nI x.2) → wfC 21 L.length C g → Sm p L → (rnC v C L = none → (tmF code ci v C.length c L.length p).1 = true) ∧ ∀ L', rnC v C L = some L' → (tmF code ci v C.length c L.length p).1 = false ∧ ∃ p', Sm p' L' ∧ (tmF code ci v C.length c L.length p).2.1 = p' 0
  | [], c, g, L, p, hc, hw, hs => by
    refine ⟨fun e => (by cases e), fun L' e => ?_⟩
    have e : some L = some L' := e
    cases e
    exact ⟨rfl, p, hs, rfl⟩
  | x :: C, c, g, L, p, hc, hw, hs => by
    have h0 := hc 0 x rfl
    rw [Nat.add_zero] at h0
    have hc2 : ∀ i d, C[i]? = some d → code (c + 1 + i) = nI d.1 ∧ ci (c + 1 + i) = nI d.2 := fun i d hd => by
      rw [show c + 1 + i = c + (i + 1) by omega]
      exact hc (i + 1) d hd
    rw [show (x :: C).length = C.length + 1 from rfl, tmF_s, h0.1, h0.2]
    rcases hw with ⟨e, a, d, q⟩ | ⟨e, a, d, q⟩ | ⟨e, a, d, q⟩
    · rw [e, if_pos (by decide), if_pos (by decide), rnC_0 e]
      exact tm_run C (c + 1) g (nI x.2 :: L) _ hc2 q hs.push
    · rw [e, if_pos (by decide), if_neg (by decide), nI_clamp (by omega), rnC_1 e]
      exact tm_run C (c + 1) g (v x.2 :: L) _ hc2 q hs.push
    · match L, d, q, hs with
      | y :: z :: L, d, q, hs =>
        have ey : p (L.length + 2 - 1) = y := hs.top
        have ez : p (L.length + 2 - 1 - 1) = z := hs.pop.top
        rw [show (y :: z :: L).length = L.length + 2 from rfl, if_neg (by rw [nI_ltI (by omega) (by omega)]; omega), ey, ez, rnC_2 e]
        by_cases w : x.1 = 5 ∧ y = 0
        · rw [if_pos w, if_pos ⟨by rw [w.1], w.2⟩]
          exact ⟨fun _ => rfl, fun L' k => by cases k⟩
        · rw [if_neg w, if_neg (fun k => w ⟨(nI_eq (by omega) (by omega)).mp k.1, k.2⟩)]
          exact tm_run C (c + 1) g (jo (nI x.1) z y :: L) _ hc2 q hs.join
theorem tv_run {code ci v : Nat → Int32} {C : Cs} {c n : Nat} (hn : n = C.length) (hc : ∀ i x, C[i]? = some x → code (c + i) = nI x.1 ∧ ci (c + i) = nI x.2) (ok : okC C) : (vaC v C = none ∧ (tvF code ci v c n).1 = true) ∨ ∃ x, vaC v C = some x ∧ (tvF code ci v c n).1 = false ∧ (tvF code ci v c n).2 = x := by
  subst hn
  have h := tm_run (v := v) C c 1 [] (fun _ => nI 0) hc ok (fun i x hx => by cases hx)
  rcases vaC_c (v := v) ok with ⟨e1, e2⟩ | ⟨x, e1, e2⟩
  · exact Or.inl ⟨e1, h.1 e2⟩
  · obtain ⟨a, p', b, d⟩ := h.2 _ e2
    exact Or.inr ⟨x, e1, a, d.trans b.top⟩
/-! the reference's branches -/
/-- C lies in D from f on -/
def Lies (D : Cs) (f : Nat) (C : Cs) : Prop := ∀ (i : Nat) (c : Nat × Nat), C[i]? = some c → D[f + i]? = some c
theorem Lies.l {D C E : Cs} {f : Nat} (h : Lies D f (C ++ E)) : Lies D f C := fun i c hi => h i c (ap_l hi)
theorem Lies.r {D C E : Cs} {f : Nat} (h : Lies D f (C ++ E)) : Lies D (f + C.length) E := fun i c hi => by rw [Nat.add_assoc]; exact h _ c (ap_r hi)
theorem Lies.mn {D D' C : Cs} {f : Nat} (h : Lies D f C) (k : ∀ (i : Nat) (c : Nat × Nat), D[i]? = some c → D'[i]? = some c) : Lies D' f C := fun i c hi => k _ c (h i c hi)
def CdR (m : Me) (c0 : Nat) (D : Cs) : Prop := ∀ i c, D[i]? = some c → gI m 310 (c0 + i) = nI c.1 ∧ gI m 311 (c0 + i) = nI c.2
theorem CdR.sub {m : Me} {c0 f : Nat} {D C : Cs} (h : CdR m c0 D) (k : Lies D f C) : ∀ i c, C[i]? = some c → gI m 310 (c0 + f + i) = nI c.1 ∧ gI m 311 (c0 + f + i) = nI c.2 := fun i c hi => by rw [Nat.add_assoc]; exact h _ c (k i c hi)
def BrA (m : Me) (c0 : Nat) (D : Cs) (x : Nat) (b : Br) : Prop := gI m 305 x = nI 1 ∧ ∃ f, gI m 306 x = nI (c0 + f) ∧ gI m 307 x = nI (c0 + f + b.1.length) ∧ gI m 308 x = nI (c0 + f + b.1.length + b.2.1.length) ∧ gI m 309 x = nI (c0 + f + b.1.length + b.2.1.length + b.2.2.length) ∧ f + b.1.length + b.2.1.length + b.2.2.length ≤ 420 ∧ Lies D f (b.1 ++ (b.2.1 ++ b.2.2))
def BrE (m : Me) (c0 : Nat) (D : Cs) (x : Nat) (e : Cs) : Prop := gI m 305 x = nI 0 ∧ ∃ f, gI m 308 x = nI (c0 + f) ∧ gI m 309 x = nI (c0 + f + e.length) ∧ f + e.length ≤ 420 ∧ Lies D f e
def LwA (m : Me) (c0 : Nat) (D : Cs) : Nat → List Br → Cs → Prop
  | x, [], e => BrE m c0 D x e
  | x, b :: bs, e => BrA m c0 D x b ∧ LwA m c0 D (x + 1) bs e
theorem BrA.keep {m m' : Me} {c0 x : Nat} {D D' : Cs} {b : Br} (h : BrA m c0 D x b) (hk : ∀ r, 305 ≤ r → r ≤ 309 → gI m' r x = gI m r x) (hD : ∀ (i : Nat) (c : Nat × Nat), D[i]? = some c → D'[i]? = some c) : BrA m' c0 D' x b := by
  obtain ⟨a, f, b1, b2, b3, b4, b5, b6⟩ := h
  exact ⟨by rw [hk 305 (by omega) (by omega)]; exact a, f, by rw [hk 306 (by omega) (by omega)]; exact b1, by rw [hk 307 (by omega) (by omega)]; exact b2, by rw [hk 308 (by omega) (by omega)]; exact b3, by rw [hk 309 (by omega) (by omega)]; exact b4, b5, b6.mn hD⟩
theorem LwA.keep {m m' : Me} {c0 : Nat} {D D' : Cs} {e : Cs} (hD : ∀ (i : Nat) (c : Nat × Nat), D[i]? = some c → D'[i]? = some c) : ∀ (bs : List Br) (x : Nat), LwA m c0 D x bs e → (∀ y r, x ≤ y → y ≤ x + bs.length → 305 ≤ r → r ≤ 309 → gI m' r y = gI m r y) → LwA m' c0 D' x bs e
  | [], x, h, hk => by
    obtain ⟨a, f, b3, b4, b5, b6⟩ := h
    exact ⟨by rw [hk x 305 (by omega) (by show x ≤ x + 0; omega) (by omega) (by omega)]; exact a, f, by rw [hk x 308 (by omega) (by show x ≤ x + 0; omega) (by omega) (by omega)]; exact b3, by rw [hk x 309 (by omega) (by show x ≤ x + 0; omega) (by omega) (by omega)]; exact b4, b5, b6.mn hD⟩
  | b :: bs, x, h, hk => by
    refine ⟨h.1.keep (fun r h1 h2 => hk x r (by omega) (by show x ≤ x + (bs.length + 1); omega) h1 h2) hD, LwA.keep hD bs (x + 1) h.2 (fun y r h1 h2 => hk y r (by omega) (by show y ≤ x + (bs.length + 1); omega))⟩
/-- a branch more -/
theorem LwA.snoc {m : Me} {c0 : Nat} {D : Cs} {e : Cs} {b : Br} : ∀ (bs : List Br) (x : Nat), (∀ i c, bs[i]? = some c → BrA m c0 D (x + i) c) → BrE m c0 D (x + bs.length) e → LwA m c0 D x bs e
  | [], x, _, k => k
  | c :: bs, x, h, k => by
    refine ⟨h 0 c rfl, LwA.snoc (b := b) bs (x + 1) (fun i d hi => ?_) ?_⟩
    · rw [show x + 1 + i = x + (i + 1) by omega]
      exact h (i + 1) d hi
    · rw [show x + 1 + bs.length = x + (bs.length + 1) by omega]
      exact k
abbrev cl (f : Nat → Int32) : Nat → Nat := fun b => (f b).toNatClampNeg
/-- the reference's law is the law -/
theorem lw_ref {m : Me} {c0 : Nat} {D e : Cs} (hc : CdR m c0 D) (h0 : c0 ≤ 420) (oe : okC e) : ∀ (bs : List Br) (x : Nat), LwA m c0 D x bs e → (∀ b ∈ bs, okB b) → (∀ b, x ≤ b → b < x + bs.length + 1 → wfB m b (cl (gI m 306) b) (cl (gI m 307) b) (cl (gI m 308) b) (cl (gI m 309) b)) ∧ ∀ v, lwF (gI m 305) (gI m 310) (gI m 311) v (cl (gI m 306)) (cl (gI m 307)) (cl (gI m 308)) (cl (gI m 309)) (bs.length + 1) x = lwP v bs e
  | [], x, h, _ => by
    obtain ⟨a, f, b3, b4, b5, b6⟩ := h
    have e3 : cl (gI m 308) x = c0 + f := by show (gI m 308 x).toNatClampNeg = _; rw [b3, nI_clamp (by omega)]
    have e4 : cl (gI m 309) x = c0 + f + e.length := by show (gI m 309 x).toNatClampNeg = _; rw [b4, nI_clamp (by omega)]
    have he := hc.sub b6
    refine ⟨fun b h1 h2 => ?_, fun v => ?_⟩
    · have hb : b = x := by have h2 : b < x + 0 + 1 := h2; omega
      subst hb
      rw [e3, e4]
      refine ⟨b3, b4, by omega, by omega, ?_, Or.inl a⟩
      rw [show c0 + f + e.length - (c0 + f) = e.length by omega]
      exact wfT_run e _ 0 he oe
    · rw [lwF, if_pos (by rw [a]; decide), e3, e4, show c0 + f + e.length - (c0 + f) = e.length by omega]
      rcases tv_run (v := v) rfl he oe with ⟨k1, k2⟩ | ⟨y, k1, k2, k3⟩
      · rw [k2, if_pos rfl]
        show nI 0 = (vaC v e).getD (nI 0)
        rw [k1]
        rfl
      · rw [k2, if_neg (by decide), k3]
        show y = (vaC v e).getD (nI 0)
        rw [k1]
        rfl
  | c :: bs, x, h, hb => by
    obtain ⟨u, w, t⟩ := c
    obtain ⟨⟨a, f, b1, b2, b3, b4, b5, b6⟩, hl⟩ := h
    obtain ⟨ou, ow, ot⟩ := hb (u, w, t) List.mem_cons_self
    have ih := lw_ref hc h0 oe bs (x + 1) hl (fun b q => hb b (List.mem_cons_of_mem _ q))
    have e1 : cl (gI m 306) x = c0 + f := by show (gI m 306 x).toNatClampNeg = _; rw [b1, nI_clamp (by omega)]
    have e2 : cl (gI m 307) x = c0 + f + u.length := by show (gI m 307 x).toNatClampNeg = _; rw [b2, nI_clamp (by omega)]
    have e3 : cl (gI m 308) x = c0 + f + u.length + w.length := by show (gI m 308 x).toNatClampNeg = _; rw [b3, nI_clamp (by omega)]
    have e4 : cl (gI m 309) x = c0 + f + u.length + w.length + t.length := by show (gI m 309 x).toNatClampNeg = _; rw [b4, nI_clamp (by omega)]
    have b5 : f + u.length + w.length + t.length ≤ 420 := b5
    have hu := hc.sub b6.l
    have hw := hc.sub b6.r.l
    have ht := hc.sub b6.r.r
    rw [← Nat.add_assoc] at hw ht
    rw [← Nat.add_assoc] at ht
    refine ⟨fun b h1 h2 => ?_, fun v => ?_⟩
    · by_cases q : b = x
      · subst q
        rw [e1, e2, e3, e4]
        refine ⟨b3, b4, by omega, by omega, ?_, Or.inr ⟨a, b1, b2, by omega, by omega, ?_, ?_⟩⟩
        · rw [show c0 + f + u.length + w.length + t.length - (c0 + f + u.length + w.length) = t.length by omega]
          exact wfT_run t _ 0 ht ot
        · rw [show c0 + f + u.length - (c0 + f) = u.length by omega]
          exact wfT_run u _ 0 hu ou
        · rw [show c0 + f + u.length + w.length - (c0 + f + u.length) = w.length by omega]
          exact wfT_run w _ 0 hw ow
      · exact ih.1 b (by omega) (by have h2 : b < x + (bs.length + 1) + 1 := h2; omega)
    · show _ = (match vaC v u, vaC v w with
        | some x, some y => if x < y then (vaC v t).getD (nI 0) else lwP v bs e
        | _, _ => nI 0)
      rw [show ((u, w, t) :: bs).length + 1 = (bs.length + 1) + 1 from rfl, lwF, if_neg (by rw [a]; decide), e1, e2, e3, e4, show c0 + f + u.length + w.length + t.length - (c0 + f + u.length + w.length) = t.length by omega, show c0 + f + u.length - (c0 + f) = u.length by omega, show c0 + f + u.length + w.length - (c0 + f + u.length) = w.length by omega]
      rcases tv_run (v := v) rfl hu ou with ⟨k1, k2⟩ | ⟨y, k1, k2, k3⟩
      · rw [if_pos (Or.inl k2), k1]
      · rcases tv_run (v := v) rfl hw ow with ⟨l1, l2⟩ | ⟨z, l1, l2, l3⟩
        · rw [if_pos (Or.inr l2), k1, l1]
        · rw [if_neg (by rw [k2, l2]; decide), k1, l1, k3, l3]
          show _ = if y < z then _ else _
          by_cases q : y < z
          · rw [if_pos q, if_pos q]
            rcases tv_run (v := v) rfl ht ot with ⟨n1, n2⟩ | ⟨s, n1, n2, n3⟩
            · rw [n2, if_pos rfl, n1]
              rfl
            · rw [n2, if_neg (by decide), n3, n1]
              rfl
          · rw [if_neg q, if_neg q]
            exact ih.2 v
/-- the laws of a side: each told law's branches, in its half -/
def LwQ (m : Me) (P : Pl) (lv : Nat) : Prop := ∃ D : Cs, CdR m (420 * lv) D ∧ D.length ≤ 420 ∧ ∀ k, k < 4 → (gI m 303 (4 * lv + k) = nI 0 ∧ gI m 304 (4 * lv + k) = nI 0 ∧ ∀ v, P.lw k v = dfl k v) ∨ ∃ (b : Nat) (bs : List Br) (e : Cs), 130 * lv ≤ b ∧ b + bs.length + 1 ≤ 130 * lv + 130 ∧ gI m 303 (4 * lv + k) = nI b ∧ gI m 304 (4 * lv + k) = nI (b + bs.length + 1) ∧ LwA m (420 * lv) D b bs e ∧ (∀ c ∈ bs, okB c) ∧ okC e ∧ ∀ v, P.lw k v = lwP v bs e
theorem LwQ.lw {m : Me} {P : Pl} {lv : Nat} (h : LwQ m P lv) (hlv : lv < 2) : LwM m P lv := by
  intro k hk
  obtain ⟨D, hc, hd, hl⟩ := h
  rcases hl k hk with ⟨h1, h2, h3⟩ | ⟨b, bs, e, h1, h2, h3, h4, h5, h6, h7, h8⟩
  · exact ⟨0, 0, fun _ => 0, fun _ => 0, fun _ => 0, fun _ => 0, Nat.le_refl _, by decide, h1, h2, fun b _ q => absurd q (Nat.not_lt_zero b), fun v => by rw [if_pos rfl]; exact h3 v⟩
  · obtain ⟨a1, a2⟩ := lw_ref hc (by omega) h7 bs b h5 h6
    refine ⟨b, b + bs.length + 1, cl (gI m 306), cl (gI m 307), cl (gI m 308), cl (gI m 309), by omega, by omega, h3, h4, a1, fun v => ?_⟩
    rw [if_neg (by omega), show b + bs.length + 1 - b = bs.length + 1 by omega, a2]
    exact h8 v
theorem LwQ.keep {m m' : Me} {P : Pl} {lv : Nat} (h : LwQ m P lv) (hk : ∀ x, 303 ≤ x → x ≤ 311 → gI m' x = gI m x) : LwQ m' P lv := by
  obtain ⟨D, hc, hd, hl⟩ := h
  refine ⟨D, fun i c hi => by rw [hk 310 (by decide) (by decide), hk 311 (by decide) (by decide)]; exact hc i c hi, hd, fun k hk4 => ?_⟩
  rw [hk 303 (by decide) (by decide), hk 304 (by decide) (by decide)]
  rcases hl k hk4 with h | ⟨b, bs, e, h1, h2, h3, h4, h5, h6⟩
  · exact Or.inl h
  · exact Or.inr ⟨b, bs, e, h1, h2, h3, h4, LwA.keep (fun _ _ a => a) bs b h5 (fun y r _ _ a d => by rw [hk r (by omega) (by omega)]), h6⟩
