/-! a draft in order is a plan in order -/
theorem rnC_v {v v' : Nat → Int32} {b : Nat} (hv : ∀ i, i < 9 → v i = v' i) : ∀ (C : Cs) (h g : Nat) (L : List Int32), wfC b h C g → rnC v C L = rnC v' C L
  | [], _, _, _, _ => rfl
  | c :: C, h, g, L, w => by
    rcases w with ⟨a, x, d, q⟩ | ⟨a, x, d, q⟩ | ⟨a, x, d, q⟩
    · rw [rnC_0 a, rnC_0 a]
      exact rnC_v hv C _ g _ q
    · rw [rnC_1 a, rnC_1 a, hv _ x]
      exact rnC_v hv C _ g _ q
    · match L with
      | [] =>
        show (if c.1 = 0 then _ else if c.1 = 1 then _ else none) = (if c.1 = 0 then _ else if c.1 = 1 then _ else none)
        rw [if_neg (by omega), if_neg (by omega), if_neg (by omega), if_neg (by omega)]
      | [y] =>
        show (if c.1 = 0 then _ else if c.1 = 1 then _ else none) = (if c.1 = 0 then _ else if c.1 = 1 then _ else none)
        rw [if_neg (by omega), if_neg (by omega), if_neg (by omega), if_neg (by omega)]
      | y :: z :: L =>
        rw [rnC_2 a, rnC_2 a]
        by_cases e : c.1 = 5 ∧ y = 0
        · rw [if_pos e, if_pos e]
        · rw [if_neg e, if_neg e]
          exact rnC_v hv C _ g _ q
theorem vaC_v {v v' : Nat → Int32} {C : Cs} (hv : ∀ i, i < 9 → v i = v' i) (h : okC C) : vaC v C = vaC v' C := by
  unfold vaC
  rw [rnC_v hv C 0 1 [] h]
theorem lwP_v {v v' : Nat → Int32} {e : Cs} (hv : ∀ i, i < 9 → v i = v' i) (he : okC e) : ∀ bs : List Br, (∀ b ∈ bs, okB b) → lwP v bs e = lwP v' bs e
  | [], _ => by
    show (vaC v e).getD (nI 0) = (vaC v' e).getD (nI 0)
    rw [vaC_v hv he]
  | b :: bs, hb => by
    have h := hb b List.mem_cons_self
    have ih := lwP_v hv he bs (fun c hc => hb c (List.mem_cons_of_mem _ hc))
    rw [lwP, lwP, vaC_v hv h.1, vaC_v hv h.2.1, vaC_v hv h.2.2, ih]
theorem bfo_b {b : Nat → Nat → Nat} {c N : Nat} : ∀ n, (∀ i, i < n → b i 2 ≤ N) → bfo b c n ≤ N
  | 0, _ => Nat.zero_le _
  | n + 1, h => by
    rw [bfo]
    split
    · exact h n (by omega)
    · exact bfo_b n (fun i hi => h i (by omega))
theorem bfo_0 {b : Nat → Nat → Nat} {c : Nat} : ∀ n, (∀ i, i < n → 8 * b i 1 + b i 0 ≠ c) → bfo b c n = 0
  | 0, _ => rfl
  | n + 1, h => by
    rw [bfo, if_neg (h n (by omega))]
    exact bfo_0 n (fun i hi => h i (by omega))
theorem plD_lo {D : Dr} {k : Nat} (h : k < 200) : (plD D).2.1 k = D.i k := if_neg (by omega)
theorem plD_fo {D : Dr} {c : Nat} : (plD D).fo c = nI (bfo D.bk c (D.n 4)) := by
  show (if 200 ≤ 200 + c then nI (bfo D.bk (200 + c - 200) (D.n 4)) else D.i (200 + c)) = _
  rw [if_pos (by omega), Nat.add_sub_cancel_left]
theorem plD_ok {D : Dr} {c : Nat → Nat} (hd : DrO D) (hc : CnW c D) (hl : laO D) : PlOk (plD D) := by
  obtain ⟨y0, y1, y2, y3, y4, z0, z1, z2, z3⟩ := hc
  obtain ⟨d1, d2, ⟨le, le1, le2⟩, d4, d5, d6, d7, d8, d9, dA, dB⟩ := hd
  refine ⟨d1, by show D.n 1 ≤ 5; omega, by show D.n 2 ≤ 4; omega, by show D.n 3 ≤ 6; omega, by show D.n 4 ≤ 12; omega, ⟨le, le1, (plD_lo (by decide)).trans le2⟩, fun h h1 h2 => ?_, fun h h1 => ?_, fun c hc hl' => ?_, fun c hc => ⟨_, bfo_b (N := 99) (D.n 4) (fun i hi => (d7 i hi).2.2), plD_fo⟩, fun u hu => ?_, ?_, fun k v v' hk hv => lwP_v hv (d9 k hk).2 _ (d9 k hk).1⟩
  · rw [show (plD D).ra h = D.i (10 + h) from plD_lo (by omega), show (plD D).st h = D.i (20 + h) from plD_lo (by omega)]
    exact d4 h h1 h2
  · have h1 : h < D.n 2 := h1
    rw [show (plD D).st h = D.i (20 + h) from plD_lo (by omega)]
    exact d5 h h1
  · rw [show (plD D).wh c = D.i (100 + c) from plD_lo (by omega)]
    exact hl.1 c hc hl'.1 hl'.2
  · have hu : u < D.n 3 := hu
    rw [show (plD D).uo u = D.i (30 + u) from plD_lo (by omega)]
    exact d8 u hu
  · show 0 < D.n 0 ↔ 0 < D.n 1
    omega
/-- the class's draft is the plan -/
theorem DrC.pl {m : Me} {dr : Nat} {D : Dr} {c : Nat → Nat} (h : DrC m dr D 410) (hd : DrO D) (hc : CnW c D) (hl : laO D) : PlC m dr (plD D) := by
  obtain ⟨y0, y1, y2, y3, y4, z0, z1, z2, z3⟩ := hc
  obtain ⟨⟨h0, h1, h2, h3, h4, h5', h6, h7⟩, hw, hf, hr, hu, hn, hx, ⟨C, c1, c2, c3⟩⟩ := h
  refine ⟨h0, h1, h2, h3, h4, h5'.trans (plD_lo (by decide)).symm, h6.trans (plD_lo (by decide)).symm, h7.trans (plD_lo (by decide)).symm, fun c hc => ?_, fun c hc => ?_, fun h hh => ?_, fun u hu' => ?_, fun k hk => ?_⟩
  · rw [show (plD D).wh c = D.i (100 + c) from plD_lo (by omega)]
    exact hw c hc
  · rw [hf c hc, plD_fo]
    by_cases q : ld (plD D) c
    · rw [if_pos q]
    · rw [if_neg q, bfo_0 (D.n 4) (fun i hi e => q ?_)]
      have hb := hl.2 i hi
      have hb7 := hd.2.2.2.2.2.2.1 i hi
      show c % 8 < D.n 0 ∧ c / 8 < D.n 1
      omega
  · rw [show (plD D).ra h = D.i (10 + h) from plD_lo (by omega), show (plD D).st h = D.i (20 + h) from plD_lo (by omega)]
    exact hr h hh
  · have hu' : u < D.n 3 := hu'
    rw [show (plD D).uo u = D.i (30 + u) from plD_lo (by omega), show (plD D).uf u = D.i (40 + u) from plD_lo (by omega), show (plD D).ut u = D.i (50 + u) from plD_lo (by omega), show (plD D).uk u = D.i (60 + u) from plD_lo (by omega)]
    exact hu u hu'
  · obtain ⟨s, s1, s2, s3⟩ := c3 k hk
    refine ⟨s, by omega, s2, fun v => ?_⟩
    have := an_law (code := gI m (dr + 9 + 1)) (v := v) (D.l k).1 (D.l k).2 s (420 - (lwK s (D.l k).1 (D.l k).2).length) (fun _ => nI 0) (fun i c hi => c1.2 _ c (s3 i c hi)) (by omega) (hd.2.2.2.2.2.2.2.2.1 k hk).1 (hd.2.2.2.2.2.2.2.2.1 k hk).2
    rw [show (lwK s (D.l k).1 (D.l k).2).length + (420 - (lwK s (D.l k).1 (D.l k).2).length) = 420 by omega] at this
    exact this
