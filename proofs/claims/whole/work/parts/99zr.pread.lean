/-! reading, on both sides -/
theorem SD.no {lv r b i j : Nat} (hb : bz r = b) (hlv : lv < 2) (hi : i < b) (hj : j = b * lv + i) : ¬ SD (1 - lv) r j := by
  unfold SD
  rw [hb, hj]
  rcases (show lv = 0 ∨ lv = 1 by omega) with rfl | rfl <;> simp only [Nat.sub_zero, Nat.sub_self, Nat.mul_one, Nat.mul_zero] <;> omega
theorem MdC.fs {m m' : Me} {P : Pl} {lv : Nat} (h : MdC m P lv) (ok : PlOk P) (f : FS (1 - lv) m m') (h0 : gI m' 274 18 = gI m 274 18) : MdC m' P lv := by
  have hlv := h.lv
  have one : ∀ r, 284 ≤ r → r ≤ 311 → bz r = 1 → gI m' r lv = gI m r lv := fun r a b c => f r lv a b (SD.no (i := 0) c hlv (by decide) (by omega))
  have e : ∀ r b i, 284 ≤ r → r ≤ 311 → bz r = b → i < b → gI m' r (b * lv + i) = gI m r (b * lv + i) := fun r b i a c d g => f r _ a c (SD.no d hlv g rfl)
  refine ⟨hlv, h0.trans h.li, ?_, ?_, ?_, ?_, ?_, ?_, ?_, ?_, fun k hk => ?_, fun u hu => ?_, fun c hc hl => ?_, ?_⟩
  · rw [one 284 (by decide) (by decide) rfl]; exact h.wd
  · rw [one 285 (by decide) (by decide) rfl]; exact h.rw
  · rw [one 288 (by decide) (by decide) rfl]; exact h.hd
  · rw [one 291 (by decide) (by decide) rfl]; exact h.us
  · rw [one 296 (by decide) (by decide) rfl]; exact h.bk
  · rw [one 300 (by decide) (by decide) rfl]; exact h.gu
  · rw [one 301 (by decide) (by decide) rfl]; exact h.le
  · rw [one 302 (by decide) (by decide) rfl]; exact h.se
  · have h4 := ok.2.2.1
    rw [e 289 4 k (by decide) (by decide) rfl (by omega), e 290 4 k (by decide) (by decide) rfl (by omega)]; exact h.ra k hk
  · have h6 := ok.2.2.2.1
    rw [e 292 6 u (by decide) (by decide) rfl (by omega), e 293 6 u (by decide) (by decide) rfl (by omega), e 294 6 u (by decide) (by decide) rfl (by omega), e 295 6 u (by decide) (by decide) rfl (by omega)]; exact h.uu u hu
  · rw [e 286 40 c (by decide) (by decide) rfl hc, e 287 40 c (by decide) (by decide) rfl hc]; exact h.ce c hc hl
  · obtain ⟨D, hc, hd, hl⟩ := h.lq
    refine ⟨D, fun i c hi => ?_, hd, fun k hk => ?_⟩
    · have hil := (List.getElem?_eq_some_iff.mp hi).1
      rw [e 310 420 i (by decide) (by decide) rfl (by omega), e 311 420 i (by decide) (by decide) rfl (by omega)]; exact hc i c hi
    · rw [e 303 4 k (by decide) (by decide) rfl hk, e 304 4 k (by decide) (by decide) rfl hk]
      rcases hl k hk with g | ⟨b, bs, e1, a1, a2, a3, a4, a5, a6⟩
      · exact Or.inl g
      · refine Or.inr ⟨b, bs, e1, a1, a2, a3, a4, LwA.keep (fun _ _ a => a) bs b a5 (fun y r y1 y2 r1 r2 => ?_), a6⟩
        have hbz : bz r = 130 := by rcases (show r = 305 ∨ r = 306 ∨ r = 307 ∨ r = 308 ∨ r = 309 by omega) with rfl | rfl | rfl | rfl | rfl <;> rfl
        have := e r 130 (y - 130 * lv) (by omega) (by omega) hbz (by omega)
        rw [show 130 * lv + (y - 130 * lv) = y by omega] at this
        exact this
theorem gw_e {m m' : Me} {g : Nat} (e : ∀ x, g ≤ x → x ≤ g + 5 → gI m' x = gI m x) : gw m' g = gw m g := by
  unfold gw
  rw [e (g + 1) (by omega) (by omega), e (g + 2) (by omega) (by omega), e (g + 3) (by omega) (by omega), e (g + 4) (by omega) (by omega), e (g + 5) (by omega) (by omega), e g (by omega) (by omega)]
theorem pr_read {M : Nat} {m : Me} (h : Rl M m) (hM : M < 2 ^ 18) : Pair mX11_read mX12_read [] M m := by
  obtain ⟨P, pl, dr, lv, h⟩ := h
  have hpd := h.cx.pd
  have hlv := h.md.lv
  obtain ⟨n, hn, t1, t2, t3⟩ := h.tp
  obtain ⟨B, hB⟩ : ∃ B, B = by8 (gI m 2) := ⟨_, rfl⟩
  have hb : ∀ i, gI m 2 i &&& nI 255 = nI (B i) := fun i => by rw [hB]; exact (by8_e (gI m 2) i).1
  have h8 : B8 B := fun i => by rw [hB]; exact (by8_e (gI m 2) i).2
  refine (ev_read h.cx h.wf ⟨hn, t1, fun i _ => hb i, h8⟩ h.kw.1).mono ?_
  rintro o m1 ⟨z, hz, rfl, p1, l1, f1, f2⟩
  have key : (∀ x, 274 ≤ x → gI m1 x = gI m x) ∧ gJ m1 281 = gJ m 281 ∧ Wf12 m1.1 (gR m1) := by
    by_cases w0 : (rdW B n z).1 = 0
    · obtain ⟨-, b2, -, -, -, -, -, -, -, bA, bB⟩ := f2 w0
      exact ⟨bA, bB 281 (by decide), b2⟩
    · obtain ⟨a1, a2, a3, a4⟩ := f1 w0
      exact ⟨fun x hx => a3 x (by omega), a4 281 (by decide) (by decide) (by decide), by rw [a1, a2]; exact h.wf⟩
  obtain ⟨e1, e2, hx1⟩ := key
  have hwv : WvR m1 := by
    have := h.th.2
    unfold WvR at this ⊢
    rw [e1 274 (by decide), e1 312 (by decide)]
    exact this
  refine ⟨_, rfl, (ex_read (B := B) (n := n) (z := z) (lv := lv) (sd := 1 - lv) hx1 hn (by rw [e1 274 (by decide)]; exact t2) (fun i hi => by rw [e1 275 (by decide), ← t3 i hi]; exact hb i) h8 (fun k hk => by rw [e2]; exact h.kw.2 k hk) (by rw [e1 274 (by decide)]; exact h.md.li) hlv rfl hwv hz).mono ?_⟩
  rintro o2 m2 ⟨rfl, q1, q2, q3, g1, g2⟩
  refine ⟨rfl, ?_⟩
  by_cases w0 : (rdW B n z).1 = 0
  · obtain ⟨b1, b2, b3, b4, b5, b6, b7, b8, b9, bA, bB⟩ := f2 w0
    obtain ⟨c1, c2, c3, c4, c5, c6, c7, c8, c9, cA, cB⟩ := g2 w0
    have ok := (rd_pl w0).2.2.2
    generalize plD (rdF B n z).1 = P' at *
    have hR : RoOk P' (M + 48) (gI m2 315) := ((bgM_ok ok).le (Nat.zero_le _)).to c2
    have hg : gw m2 15 = gw m1 15 := gw_e (fun x a b => c9 x (by omega))
    obtain ⟨s, x, s1, s2, s3, -⟩ := h.hs
    refine ⟨P', dr, pl, 1 - lv, c7.trans (b9.trans h.1), by rw [c7, c8]; exact b1, c6, b3.keep (fun x a b _ => c9 x (by omega)), ok, c1, hR, ?_, ⟨0, by omega, by rw [c9 1 (by decide)]; exact l1, q2, fun k hk => absurd hk (Nat.not_lt_zero k)⟩, by rw [c9 3 (by decide), p1, q1], ⟨fun k hk => ?_, fun k hk => ?_⟩, ⟨0, x, by omega, s2, by rw [c9 27 (by decide), b5]; exact s3, by rw [c9 27 (by decide)]; exact b6, c3, fun j hj => absurd hj (Nat.not_lt_zero j)⟩, ⟨0, by omega, by rw [c9 211 (by decide)]; exact b7, c4, fun i hi => absurd hi (Nat.not_lt_zero i)⟩, fun j hj => Or.inl ⟨by rw [c9 210 (by decide)]; exact b8 j hj, c5 j hj⟩, fun k hk => ?_, q3⟩
    · rw [hg]
      exact b4.to c2
    · rw [cB 4 (by decide) (by decide), bB 4 (by decide)]; exact h.kw.1 k hk
    · rw [cB 281 (by decide) (by decide), bB 281 (by decide)]; exact h.kw.2 k hk
    · rw [cA, e1 320 (by decide)]; exact h.th.1 k hk
  · obtain ⟨a1, a2, a3, a4⟩ := f1 w0
    have fg := g1 w0
    have f0 : ∀ x, x < 274 → gI m2 x = gI m1 x := fun x hx => fg.1.at (by omega)
    have f3 : ∀ x, 313 ≤ x → gI m2 x = gI m x := fun x hx => (fg.1.at (by omega)).trans (e1 x (by omega))
    have fc : ∀ x, x < 274 → ¬ (x = 1 ∨ x = 3 ∨ x = 5 ∨ x = 7 ∨ x = 8 ∨ x = 9 ∨ x = 10 ∨ (dr ≤ x ∧ x ≤ dr + 14)) → gI m2 x = gI m x := fun x hx hn => (f0 x hx).trans (a3 x hn)
    have fj : ∀ x, x ≠ 6 → x ≠ 11 → x ≠ 12 → x ≠ 280 → x ≠ 282 → gJ m2 x = gJ m x := fun x a b c d e => (fg.1.aj (by omega)).trans (a4 x a b c)
    have ff : ∀ k, (k = 18 ∨ 55 ≤ k) → gI m2 274 k = gI m 274 k := fun k hk => (fg.2.1 k hk).trans (by rw [e1 274 (by decide)])
    have hfs : FS (1 - lv) m m2 := fun r j a b c => (fg.2.2 r j a b c).trans (by rw [e1 r (by omega)])
    have hg : gw m2 15 = gw m 15 := gw_e (fun x a b => fc x (by omega) (by omega))
    have h315 := f3 315 (by decide)
    refine ⟨P, pl, dr, lv, RlP.le (M := M) ⟨fg.1.1.trans (a1.trans h.1), by rw [fg.1.1, fg.1.2.1, a1, a2]; exact h.cx, by rw [fg.1.1, fg.1.2.1, a1, a2]; exact h.wf, h.pc.keep (fun x a b _ => fc x (by omega) (by omega)), h.ok, h.md.fs h.ok hfs (ff 18 (Or.inl rfl)), by rw [h315]; exact h.2.2.2.2.2.2.1, by rw [h315, hg]; exact h.2.2.2.2.2.2.2.1, ⟨0, by omega, by rw [f0 1 (by decide)]; exact l1, q2, fun k hk => absurd hk (Nat.not_lt_zero k)⟩, by rw [f0 3 (by decide), p1, q1], h.kw.keep (fj 4 (by decide) (by decide) (by decide) (by decide) (by decide)) (fj 281 (by decide) (by decide) (by decide) (by decide) (by decide)), h.hs.keep (Nat.le_refl _) (fc 27 (by decide) (by omega)) (ff 63 (Or.inr (by decide))) (fun x a b => fc x (by omega) (by omega)) (f3 318 (by decide)), h.hu.keep (by rw [fc 211 (by decide) (by omega)]) (ff 68 (Or.inr (by decide))) (fun x a b => fc x (by omega) (by omega)) (fun x a b => f3 x (by omega)), h.sl.keep (Nat.le_refl _) (fc 210 (by decide) (by omega)) (f3 326 (by decide)) (fun x a b => fc x (by omega) (by omega)) (f3 327 (by decide)), fun k hk => by rw [f3 320 (by decide)]; exact h.th.1 k hk, q3⟩ (by omega)⟩
