theorem fa_or (a b : Nat) : nI a ||| nI b = nI (a ||| b) := by
  apply Int32.toBitVec_inj.mp
  show (BitVec.ofNat 32 a ||| BitVec.ofNat 32 b) = BitVec.ofNat 32 (a ||| b)
  rw [BitVec.ofNat_or]
theorem cw_n {c : Nat × Nat} (h1 : c.1 < 8) (h2 : c.2 < 65536) : cw c = nI (2 ^ 16 * c.1 + c.2) := by
  unfold cw
  rw [pk_shlN (nI 16 &&& 31) 16 (by decide) (by omega), fa_or, Nat.mul_comm, ← Nat.two_pow_add_eq_or_of_lt (by omega : c.2 < 2 ^ 16)]
theorem cw_s {c : Nat × Nat} (h1 : c.1 < 8) (h2 : c.2 < 65536) : cw c >>> (nI 16 &&& 31) = nI c.1 := by
  rw [cw_n h1 h2, pk_shrN (by omega) (nI 16 &&& 31) 16 (by decide)]
  congr 1
  omega
theorem cw_o {c : Nat × Nat} (h1 : c.1 < 8) (h2 : c.2 < 65536) : (cw c).toBitVec.toNat % 2 ^ 16 = c.2 := by
  rw [cw_n h1 h2, pk_tn (by omega)]
  omega
/-- the class's machine over a straight code -/
theorem an_run {code v : Nat → Int32} : ∀ (C : Cs) (a f g : Nat) (L : List Int32) (st : Nat → Int32), (∀ i c, C[i]? = some c → code (a + i) = cw c) → a + C.length ≤ 420 → L.length ≤ 23 → wfC 23 L.length C g → Sm st L → (rnC v C L = none → (anF code v (C.length + f) a L.length st).1 = nI 0) ∧ ∀ L', rnC v C L = some L' → ∃ st', Sm st' L' ∧ (anF code v (C.length + f) a L.length st).1 = (anF code v f (a + C.length) L'.length st').1
  | [], a, f, g, L, st, hc, ha, h23, hw, hs => by
    refine ⟨fun e => (by cases e), fun L' e => ?_⟩
    have e : some L = some L' := e
    cases e
    refine ⟨st, hs, ?_⟩
    show (anF code v (0 + f) a L.length st).1 = (anF code v f (a + 0) L.length st).1
    rw [Nat.zero_add, Nat.add_zero]
  | c :: C, a, f, g, L, st, hc, ha, h23, hw, hs => by
    have ha2 : a + (C.length + 1) ≤ 420 := ha
    have h0 := hc 0 c rfl
    rw [Nat.add_zero] at h0
    have hc2 : ∀ i d, C[i]? = some d → code (a + 1 + i) = cw d := fun i d hd => by
      rw [show a + 1 + i = a + (i + 1) by omega]
      exact hc (i + 1) d hd
    rw [show (c :: C).length + f = (C.length + f) + 1 from by show C.length + 1 + f = _; omega, anF_s, if_neg (by omega), h0, show a + (c :: C).length = a + 1 + C.length from by show a + (C.length + 1) = _; omega]
    rcases hw with ⟨e, x, d, q⟩ | ⟨e, x, d, q⟩ | ⟨e, x, d, q⟩
    · rw [cw_s (by omega) x, cw_o (by omega) x, e, if_pos (by decide), rnC_0 e]
      exact an_run C (a + 1) f g (nI c.2 :: L) _ hc2 (by omega) (by show L.length + 1 ≤ 23; omega) q hs.push
    · rw [cw_s (by omega) (by omega), cw_o (by omega) (by omega), e, if_neg (by decide), if_pos rfl, if_pos x, rnC_1 e]
      exact an_run C (a + 1) f g (v c.2 :: L) _ hc2 (by omega) (by show L.length + 1 ≤ 23; omega) q hs.push
    · match L, d, q, hs, h23 with
      | y :: z :: L, d, q, hs, h23 =>
        have h23 : L.length + 2 ≤ 23 := h23
        have n0 : ¬ nI c.1 = 0 := by rw [← nI_0, nI_eq (by omega) (by omega)]; omega
        have n1 : ¬ nI c.1 = nI 1 := by rw [nI_eq (by omega) (by omega)]; omega
        have n7 : ¬ (nI c.1 = nI 7 ∨ L.length + 2 < 2) := by rw [nI_eq (by omega) (by omega)]; omega
        have n6 : ¬ nI c.1 = nI 6 := by rw [nI_eq (by omega) (by omega)]; omega
        have ey : st (L.length + 2 - 1) = y := hs.top
        have ez : st (L.length + 2 - 1 - 1) = z := hs.pop.top
        rw [show (y :: z :: L).length = L.length + 2 from rfl, cw_s (by omega) (by omega), if_neg n0, if_neg n1, if_neg n7, if_neg n6, ey, ez, rnC_2 e]
        by_cases w : c.1 = 5 ∧ y = 0
        · rw [if_pos w, if_pos ⟨by rw [w.1], w.2⟩]
          exact ⟨fun _ => rfl, fun L' k => by cases k⟩
        · rw [if_neg w, if_neg (fun k => w ⟨(nI_eq (by omega) (by omega)).mp k.1, k.2⟩)]
          exact an_run C (a + 1) f g (jo (nI c.1) z y :: L) _ hc2 (by omega) (by show L.length + 1 ≤ 23; omega) q hs.join
def lwK : Nat → List Br → Cs → Cs
  | _, [], e => e ++ [(7, 0)]
  | s, b :: bs, e => b.1 ++ (b.2.1 ++ ((6, s + b.1.length + b.2.1.length + b.2.2.length + 2) :: (b.2.2 ++ ((7, 0) :: lwK (s + b.1.length + b.2.1.length + b.2.2.length + 2) bs e))))
theorem an_term {code v : Nat → Int32} {C : Cs} {a f : Nat} {st : Nat → Int32} (hc : ∀ i c, (C ++ [(7, 0)])[i]? = some c → code (a + i) = cw c) (hl : a + C.length < 420) (ok : okC C) : (anF code v (C.length + (f + 1)) a 0 st).1 = (vaC v C).getD (nI 0) := by
  have h := an_run (v := v) C a (f + 1) 1 [] st (fun i c hi => hc i c (by rw [List.getElem?_append_left (List.getElem?_eq_some_iff.mp hi).1]; exact hi)) (by omega) (by decide) (wfC_mn (by decide) _ _ _ ok) (fun i x hx => by cases hx)
  have h7 : code (a + C.length) = cw (7, 0) := hc C.length (7, 0) (by rw [List.getElem?_append_right (Nat.le_refl _), Nat.sub_self]; rfl)
  rcases vaC_c (v := v) ok with ⟨e1, e2⟩ | ⟨x, e1, e2⟩
  · rw [e1]
    exact h.1 e2
  · obtain ⟨st', hs, h2⟩ := h.2 _ e2
    rw [e1, show ([] : List Int32).length = 0 from rfl] at *
    rw [h2, anF_s, if_neg (by show ¬ (420 ≤ _ ∨ 24 ≤ 1); omega), h7, if_neg (by decide), if_neg (by decide), if_pos (Or.inl (by decide))]
    show st' 0 = x
    exact hs.top
/-- the class's machine over a law -/
theorem an_law {code v : Nat → Int32} : ∀ (bs : List Br) (e : Cs) (s f : Nat) (st : Nat → Int32), (∀ i c, (lwK s bs e)[i]? = some c → code (s + i) = cw c) → s + (lwK s bs e).length ≤ 420 → (∀ b ∈ bs, okB b) → okC e → (anF code v ((lwK s bs e).length + f) s 0 st).1 = lwP v bs e
  | [], e, s, f, st, hc, hl, _, ok => by
    have hl : s + (e ++ [(7, 0)]).length ≤ 420 := hl
    rw [List.length_append] at hl
    have hl : s + (e.length + 1) ≤ 420 := hl
    rw [show (lwK s [] e).length + f = e.length + (f + 1) from by rw [show lwK s [] e = e ++ [(7, 0)] from rfl, List.length_append]; show e.length + 1 + f = _; omega]
    exact an_term hc (by omega) ok
  | b :: bs, e, s, f, st, hc, hl, hb, ok => by
    obtain ⟨u, w, t⟩ := b
    obtain ⟨ou, ow, ot⟩ := hb (u, w, t) List.mem_cons_self
    generalize hT : s + u.length + w.length + t.length + 2 = T at *
    have hK : lwK s ((u, w, t) :: bs) e = u ++ (w ++ ((6, T) :: (t ++ ((7, 0) :: lwK T bs e)))) := by rw [← hT]; rfl
    rw [hK] at hc hl ⊢
    generalize hR : lwK T bs e = R at *
    have hlen : (u ++ (w ++ ((6, T) :: (t ++ ((7, 0) :: R))))).length = u.length + (w.length + (1 + (t.length + (1 + R.length)))) := by
      simp only [List.length_append, List.length_cons]
      omega
    rw [hlen] at hl ⊢
    have cu : ∀ i c, u[i]? = some c → code (s + i) = cw c := fun i c hi => hc i c (ap_l hi)
    have cw' : ∀ i c, w[i]? = some c → code (s + u.length + i) = cw c := fun i c hi => by rw [Nat.add_assoc]; exact hc _ c (ap_r (ap_l hi))
    have c6 : code (s + u.length + w.length) = cw (6, T) := by
      have := hc (u.length + (w.length + 0)) (6, T) (ap_r (ap_r rfl))
      rw [show s + (u.length + (w.length + 0)) = s + u.length + w.length by omega] at this
      exact this
    have ct : ∀ i c, (t ++ [(7, 0)])[i]? = some c → code (s + u.length + w.length + 1 + i) = cw c := fun i c hi => by
      have := hc (u.length + (w.length + (i + 1))) c (ap_r (ap_r (by
        show (t ++ ((7, 0) :: R))[i]? = some c
        rw [show t ++ ((7, 0) :: R) = (t ++ [(7, 0)]) ++ R by simp]
        exact ap_l hi)))
      rw [show s + (u.length + (w.length + (i + 1))) = s + u.length + w.length + 1 + i by omega] at this
      exact this
    have cR : ∀ i c, R[i]? = some c → code (T + i) = cw c := fun i c hi => by
      have := hc (u.length + (w.length + (t.length + (i + 1) + 1))) c (ap_r (ap_r (by
        show (t ++ ((7, 0) :: R))[t.length + (i + 1)]? = some c
        exact ap_r hi)))
      rw [show s + (u.length + (w.length + (t.length + (i + 1) + 1))) = T + i by omega] at this
      exact this
    have hu := an_run (v := v) u s (w.length + (1 + (t.length + (1 + R.length))) + f) 1 [] st cu (by omega) (by decide) (wfC_mn (by decide) _ _ _ ou) (fun i x hx => by cases hx)
    rw [show ([] : List Int32).length = 0 from rfl, show u.length + (w.length + (1 + (t.length + (1 + R.length))) + f) = u.length + (w.length + (1 + (t.length + (1 + R.length)))) + f by omega] at hu
    show _ = (match vaC v u, vaC v w with
      | some x, some y => if x < y then (vaC v t).getD (nI 0) else lwP v bs e
      | _, _ => nI 0)
    rcases vaC_c (v := v) ou with ⟨e1, e2⟩ | ⟨x, e1, e2⟩
    · rw [e1]
      exact hu.1 e2
    · obtain ⟨st1, hs1, h1⟩ := hu.2 _ e2
      rw [e1, h1, show [x].length = 1 from rfl]
      have hw2 := an_run (v := v) w (s + u.length) (1 + (t.length + (1 + R.length)) + f) 2 [x] st1 cw' (by omega) (by show 1 ≤ 23; decide) (wfC_mn (by decide) _ _ _ (wfC_sh (k := 1) w 0 1 ow)) hs1
      have hfr := (rnC_fr (v := v) [x] w [] 1 ow).1
      rw [show ([] : List Int32) ++ [x] = [x] from rfl] at hfr
      rw [show [x].length = 1 from rfl, show w.length + (1 + (t.length + (1 + R.length)) + f) = w.length + (1 + (t.length + (1 + R.length))) + f by omega] at hw2
      rcases vaC_c (v := v) ow with ⟨e3, e4⟩ | ⟨y, e3, e4⟩
      · rw [e3]
        exact hw2.1 (by rw [hfr, e4]; rfl)
      · rw [e4] at hfr
        obtain ⟨st2, hs2, h2⟩ := hw2.2 [y, x] hfr
        rw [e3, h2, show [y, x].length = 2 from rfl, show 1 + (t.length + (1 + R.length)) + f = (t.length + (1 + R.length) + f) + 1 by omega, anF_s, if_neg (by omega), c6, cw_s (by show 6 < 8; omega) (by show T < 65536; omega), cw_o (by show 6 < 8; omega) (by show T < 65536; omega), if_neg (by show ¬ nI 6 = 0; decide), if_neg (by show ¬ nI 6 = nI 1; decide), if_neg (by show ¬ (nI 6 = nI 7 ∨ 2 < 2); decide), if_pos rfl]
        have ex : st2 (2 - 2) = x := hs2.pop.top
        have ey : st2 (2 - 2 + 1) = y := hs2.top
        rw [ex, ey, Nat.sub_self]
        show _ = if x < y then _ else _
        by_cases q : x < y
        · rw [if_pos q, if_pos q, show t.length + (1 + R.length) + f = t.length + ((R.length + f) + 1) by omega]
          exact an_term ct (by omega) ot
        · rw [if_neg q, if_neg q, show t.length + (1 + R.length) + f = R.length + (t.length + 1 + f) by omega]
          have := an_law (v := v) bs e T (t.length + 1 + f) st2 (by rw [hR]; exact cR) (by rw [hR]; omega) (fun b hb2 => hb b (List.mem_cons_of_mem _ hb2)) ok
          rw [hR] at this
          exact this
