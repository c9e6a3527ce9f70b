/-- passHour: an hour as the reference has it -/
theorem ev_hour {m : Me} {pl g M : Nat} {P : Pl} {se lk : Int32} {r : Nat → Int32} (hk : Wf8 m.1 (gR m) 13) (hp : Wf7 m.1 (gR m) pl) (hg : Wf1 m.1 (gR m) g) (hP : PlC m pl P) (ok : PlOk P) (hne : g + 5 < pl ∨ pl + 14 < g) (hs1 : 14 < g) (hs2 : 14 < pl) (hM : M < 2 ^ 20) (hr : RoOk P M r) (hc : CR P (gw m g) r) : Ev mX8_passHour [.ref 13, .ref pl, .ref g, .int se, .int lk] m (fun x m' => x = none ∧ Ch (fun x => x = 14 ∨ x = pl + 12 ∨ x = pl + 13 ∨ x = g ∨ x = g + 1 ∨ x = g + 3) m m' ∧ CR P (gw m' g) (hrM P lk se r)) := by
  obtain ⟨p0, p1, p2, p3, p4, p5, p6, p7, p8, p9, p10, p11, p12⟩ := hP
  refine (ev_passHour hk hp hg p12 ok hne hs1 hs2 p2).mono ?_
  rintro x m' ⟨rfl, cc, hf, hh, hst⟩
  refine ⟨rfl, cc, ?_⟩
  obtain ⟨rf, rw', rs, t, ht, et⟩ := hr
  have hd4 := ok.2.2.1
  have eh : gI m g 0 = r 104 := by rw [gw_h]; exact hc.s (by omega) (by omega)
  have eF : ∀ c, c < 40 → gI m (g + 1) c = r c := fun c h => by rw [gw_f h]; exact hc.f h
  have eWo : ∀ c, c < 40 → ld P c → gI m (g + 2) c = r (40 + c) := fun c h l => by rw [gw_w h]; exact hc.w h l
  have eO : ∀ c, c < 40 → ¬ ld P c → gI m (g + 2) c = -1 := fun c h l => by rw [gw_w h]; exact hc.o h l
  rw [eh, p0, p1, p5, p6] at hf
  have f1 := f1_eq ok (F := gI m (g + 1)) (W := gI m (g + 2)) (se := se) rf eF eWo
  unfold hrM
  rw [w_eq] at hf
  generalize hb : wM P (r 104) = b at hf ⊢
  generalize ha : f1M P se r = a at f1 ⊢
  generalize hF1 : f1S P (nI P.wd) (nI P.rw) P.gu se (r 104) (gI m (g + 1)) (gI m (g + 2)) = F1 at f1 hf
  obtain ⟨f1a, f1b, f1c⟩ := f1
  have ha104 : a 104 = r 104 := f1c 104 (by omega)
  have th : ∀ k, k < 40 → thS2 P (eW (r 104) b) F1 (gI m (g + 2)) P.le lk k = r2M P b lk a k := fun k hk2 => by
    have := (th_eq ok (F := F1) (W := gI m (g + 2)) (b := b) (la := lk) (B := 633600) (by omega) f1b f1a (fun c h l => by rw [eWo c h l]; exact (f1c _ (by omega)).symm) hk2).1
    rw [ha104] at this
    exact this
  -- the row behind, ahead of the giving
  have e3 : ∀ k, k ≠ 104 → r3M (r2M P b lk a) k = r2M P b lk a k := fun k hk => if_neg hk
  have e3h : r3M (r2M P b lk a) 104 = nI (t + 1) := by
    show upd _ 104 _ 104 = _
    rw [upd, if_pos rfl, r2_f (Or.inl (by omega)), ha104, et, nI_add]
  have ehh : gI m g 0 + nI 1 = nI (t + 1) := by rw [eh, et, nI_add]
  have base : ∀ k, k < 105 → ¬ (80 ≤ k ∧ k < 84) → gw m' g k = if 40 ≤ k ∧ k < 80 ∧ ¬ ld P (k - 40) then -1 else r3M (r2M P b lk a) k := by
    intro k hk2 hk3
    by_cases c1 : k < 40
    · rw [if_neg (by omega), e3 k (by omega), ← gw_f c1, hf k c1, th k c1]
    by_cases c2 : k < 80
    · have e : 40 + (k - 40) = k := by omega
      rw [← e, ← gw_w (by omega), cc.at (by omega), e]
      by_cases l : ld P (k - 40)
      · rw [if_neg (fun q => q.2.2 l), eWo _ (by omega) l, e, e3 k (by omega), r2_f (Or.inl (by omega)), f1c k (by omega)]
      · rw [if_pos ⟨by omega, c2, l⟩, eO _ (by omega) l]
    rw [if_neg (by omega)]
    by_cases c4 : k < 88
    · have e : 84 + (k - 84) = k := by omega
      rw [e3 k (by omega), r2_f (Or.inl (by omega)), f1c k (by omega), ← e, ← gw_d (by omega), cc.at (by omega), gw_d (by omega)]
      exact hc.s (by omega) (by omega)
    by_cases c5 : k < 104
    · have e : 88 + (k - 88) = k := by omega
      rw [e3 k (by omega), r2_f (Or.inl (by omega)), f1c k (by omega), ← e, ← gw_l (by omega), cc.at (by omega), gw_l (by omega)]
      exact hc.s (by omega) (by omega)
    · rw [show k = 104 by omega, ← gw_h, hh, upd, if_pos rfl, e3h, ehh]
  have sto : ∀ h, h < 4 → gI m (g + 3) h = r (80 + h) := fun h hh4 => by rw [gw_s hh4]; exact hc.s (by omega) (by omega)
  have rc80 : ∀ h, h < 4 → r3M (r2M P b lk a) (80 + h) = r (80 + h) := fun h hh4 => by
    rw [e3 _ (by omega), r2_f (Or.inl (by omega)), f1c _ (by omega)]
  have hrem : r3M (r2M P b lk a) 104 - r3M (r2M P b lk a) 104 / nI 24 * nI 24 = nI ((t + 1) % 24) := by rw [e3h, pk_rem (by omega) (by omega) (by omega)]
  have hrem2 : (gI m g 0 + nI 1) - (gI m g 0 + nI 1) / nI 24 * nI 24 = nI ((t + 1) % 24) := by rw [ehh, pk_rem (by omega) (by omega) (by omega)]
  rw [hrem, ← nI_0]
  rw [hrem2] at hst
  by_cases h24 : (t + 1) % 24 = 0
  · rw [h24, if_pos (by rw [nI_0]; exact Int32.le_refl 0)]
    rw [h24] at hst
    intro k hk2
    by_cases c3 : 80 ≤ k ∧ k < 84
    · obtain ⟨h, rfl⟩ : ∃ h, k = 80 + h := ⟨k - 80, by omega⟩
      rw [if_neg (by omega), ← gw_s (by omega), hst h (by omega)]
      by_cases q : h < P.hd
      · rw [if_pos ⟨nI_0, q⟩, show r4M P P.hd (r3M (r2M P b lk a)) (80 + h) = gvM P (r3M (r2M P b lk a)) (80 + h - 80) from if_pos ⟨by omega, by omega⟩, show 80 + h - 80 = h by omega]
        unfold giS gvM
        have hfg : fgS (thS2 P (eW (gI m g 0) (wS P (gI m g 0))) (f1S P (gI m pl 0) (gI m pl 1) (gI m pl 5) se (gI m g 0) (gI m (g + 1)) (gI m (g + 2))) (gI m (g + 2)) (gI m pl 6) lk) (gI m (g + 2)) (nI h) 40 = fgY (r3M (r2M P b lk a)) (fun c => r3M (r2M P b lk a) (40 + c)) (nI h) P.wd P.rw := by
          refine fg_eq ok (fun c hc2 l => ⟨?_, ?_⟩) (fun c hc2 l => ?_)
          · rw [eh, p0, p1, p5, p6, w_eq, hb, hF1, th c hc2, e3 c (by omega)]
          · rw [eWo c hc2 l, e3 _ (by omega), r2_f (Or.inl (by omega)), f1c _ (by omega)]
          · rw [eO c hc2 l]
            intro z
            have := congrArg Int32.toInt z
            rw [nI_toInt (by omega)] at this
            have e : (-1 : Int32).toInt = -1 := rfl
            omega
        rw [hfg, ehh, e3h, sto h (by omega), rc80 h (by omega), (p10 h (by omega)).1]
        obtain ⟨s, hs, es⟩ := rs h (by omega)
        rw [es, hl_wi _ (by omega)]
        obtain ⟨z, hz, ez, -⟩ := hl_nat (P.lw 3 (eG (nI (t + 1)) (fgY (r3M (r2M P b lk a)) (fun c => r3M (r2M P b lk a) (40 + c)) (nI h) P.wd P.rw) (nI s) (P.ra h) h)) (n := 99) (by omega)
        rw [ez, nI_add]
        by_cases big : 999 < s + z
        · rw [if_pos (nI_lt big (by omega))]
          unfold hlS
          rw [if_pos (nI_le (by omega) (by omega)), if_neg (nI_ge big (by omega))]
        · rw [if_neg (nI_nlt (by omega) (by omega)), hl_in (by omega) (by omega)]
      · rw [if_neg (fun z => q z.2), show r4M P P.hd (r3M (r2M P b lk a)) (80 + h) = r3M (r2M P b lk a) (80 + h) from if_neg (by omega), rc80 h (by omega)]
        exact sto h (by omega)
    · rw [base k hk2 c3]
      have : ¬ (80 ≤ k ∧ k < 80 + P.hd) := by omega
      rw [show r4M P P.hd (r3M (r2M P b lk a)) k = r3M (r2M P b lk a) k from if_neg this]
  · rw [if_neg (fun q => h24 (by rw [nI_leI (by omega) (by omega)] at q; omega))]
    intro k hk2
    by_cases c3 : 80 ≤ k ∧ k < 84
    · obtain ⟨h, rfl⟩ : ∃ h, k = 80 + h := ⟨k - 80, by omega⟩
      rw [if_neg (by omega), ← gw_s (by omega), hst h (by omega), if_neg (fun z => h24 (by
        have z1 := z.1
        rw [← nI_0, nI_eq (by omega) (by omega)] at z1
        exact z1)), rc80 h (by omega)]
      exact sto h (by omega)
    · exact base k hk2 c3
