theorem gw_upds {m : Me} {g c : Nat} {x : Int32} (hc : c < 4) : gw (sI m (g + 3) (upd (gI m (g + 3)) c x)) g = upd (gw m g) (80 + c) x := by
  funext k
  by_cases e : k = 80 + c
  · subst e
    rw [upd_eq, ← gw_s hc, gI_s, upd_eq]
  · rw [upd_ne e]
    unfold gw
    rw [gI_n (show g + 1 ≠ g + 3 by omega), gI_n (show g + 2 ≠ g + 3 by omega), gI_n (show g + 4 ≠ g + 3 by omega), gI_n (show g + 5 ≠ g + 3 by omega), gI_n (show g ≠ g + 3 by omega), gI_s]
    by_cases q : k < 40
    · rw [if_pos q, if_pos q]
    · rw [if_neg q, if_neg q]
      by_cases q2 : k < 80
      · rw [if_pos q2, if_pos q2]
      · rw [if_neg q2, if_neg q2]
        by_cases q3 : k < 84
        · rw [if_pos q3, if_pos q3, upd_ne (by omega)]
        · rw [if_neg q3, if_neg q3]
theorem gw_updd {m : Me} {g c : Nat} {x : Int32} (hc : c < 4) : gw (sI m (g + 4) (upd (gI m (g + 4)) c x)) g = upd (gw m g) (84 + c) x := by
  funext k
  by_cases e : k = 84 + c
  · subst e
    rw [upd_eq, ← gw_d hc, gI_s, upd_eq]
  · rw [upd_ne e]
    unfold gw
    rw [gI_n (show g + 1 ≠ g + 4 by omega), gI_n (show g + 2 ≠ g + 4 by omega), gI_n (show g + 3 ≠ g + 4 by omega), gI_n (show g + 5 ≠ g + 4 by omega), gI_n (show g ≠ g + 4 by omega), gI_s]
    by_cases q : k < 40
    · rw [if_pos q, if_pos q]
    · rw [if_neg q, if_neg q]
      by_cases q2 : k < 80
      · rw [if_pos q2, if_pos q2]
      · rw [if_neg q2, if_neg q2]
        by_cases q3 : k < 84
        · rw [if_pos q3, if_pos q3]
        · rw [if_neg q3, if_neg q3]
          by_cases q4 : k < 88
          · rw [if_pos q4, if_pos q4, upd_ne (by omega)]
          · rw [if_neg q4, if_neg q4]
theorem gw_updl {m : Me} {g c : Nat} {x : Int32} (hc : c < 16) : gw (sI m (g + 5) (upd (gI m (g + 5)) c x)) g = upd (gw m g) (88 + c) x := by
  funext k
  by_cases e : k = 88 + c
  · subst e
    rw [upd_eq, ← gw_l hc, gI_s, upd_eq]
  · rw [upd_ne e]
    unfold gw
    rw [gI_n (show g + 1 ≠ g + 5 by omega), gI_n (show g + 2 ≠ g + 5 by omega), gI_n (show g + 3 ≠ g + 5 by omega), gI_n (show g + 4 ≠ g + 5 by omega), gI_n (show g ≠ g + 5 by omega), gI_s]
    by_cases q : k < 40
    · rw [if_pos q, if_pos q]
    · rw [if_neg q, if_neg q]
      by_cases q2 : k < 80
      · rw [if_pos q2, if_pos q2]
      · rw [if_neg q2, if_neg q2]
        by_cases q3 : k < 84
        · rw [if_pos q3, if_pos q3]
        · rw [if_neg q3, if_neg q3]
          by_cases q4 : k < 88
          · rw [if_pos q4, if_pos q4]
          · rw [if_neg q4, if_neg q4]
            by_cases q5 : k < 104
            · rw [if_pos q5, if_pos q5, upd_ne (by omega)]
            · rw [if_neg q5, if_neg q5]
theorem gw_updw {m : Me} {g c : Nat} {x : Int32} (hc : c < 40) : gw (sI m (g + 2) (upd (gI m (g + 2)) c x)) g = upd (gw m g) (40 + c) x := by
  funext k
  by_cases e : k = 40 + c
  · subst e
    rw [upd_eq, ← gw_w hc, gI_s, upd_eq]
  · rw [upd_ne e]
    unfold gw
    rw [gI_n (show g + 1 ≠ g + 2 by omega), gI_n (show g + 3 ≠ g + 2 by omega), gI_n (show g + 4 ≠ g + 2 by omega), gI_n (show g + 5 ≠ g + 2 by omega), gI_n (show g ≠ g + 2 by omega), gI_s]
    by_cases q : k < 40
    · rw [if_pos q, if_pos q]
    · rw [if_neg q, if_neg q]
      by_cases q2 : k < 80
      · rw [if_pos q2, if_pos q2, upd_ne (by omega)]
      · rw [if_neg q2, if_neg q2]
theorem CR.up {P : Pl} {c r : Nat → Int32} {k : Nat} {x : Int32} (hk : 80 ≤ k) (h : CR P c r) : CR P (upd c k x) (upd r k x) := by
  intro j hj
  by_cases e : j = k
  · subst e; rw [upd_eq, upd_eq, if_neg (by omega)]
  · rw [upd_ne e, upd_ne e]; exact h j hj
theorem CR.upw {P : Pl} {c r : Nat → Int32} {k : Nat} {x : Int32} (hk : k < 40) (l : ld P k) (h : CR P c r) : CR P (upd c (40 + k) x) (upd r (40 + k) x) := by
  intro j hj
  by_cases e : j = 40 + k
  · subst e; rw [upd_eq, upd_eq, if_neg (by rw [show 40 + k - 40 = k by omega]; exact fun z => z.2.2 l)]
  · rw [upd_ne e, upd_ne e]; exact h j hj
theorem upd_cm {f : Nat → Int32} {i j : Nat} {x y : Int32} (h : i ≠ j) : upd (upd f i x) j y = upd (upd f j y) i x := by
  funext k
  by_cases e : k = i
  · subst e; rw [upd_ne h, upd_eq, upd_eq]
  · by_cases z : k = j
    · subst z; rw [upd_eq, upd_ne e, upd_eq]
    · rw [upd_ne z, upd_ne e, upd_ne e, upd_ne z]
/-- one thing more is kept, as the two keep it -/
def KpC (m m' : Me) : Prop := ∀ x s, x < 30 → s ≤ 30 → gI m 27 1 = nI x → gI m 27 2 = nI s → gI m' 27 1 = nI ((x + 1) % 30) ∧ gI m' 27 2 = nI (if s < 30 then s + 1 else 30) ∧ gw m' (29 + 6 * x) = gw m 15 ∧ ∀ j, j < 30 → j ≠ x → gw m' (29 + 6 * j) = gw m (29 + 6 * j)
def KpM (m m' : Me) : Prop := ∀ u, u ≤ 30 → gI m 274 63 = nI u → gI m' 274 63 = nI (if u < 30 then u + 1 else 30) ∧ (∀ k, k < 105 → hrw m' (if u < 30 then u else 29) k = gI m 315 k) ∧ ∀ j k, j < (if u < 30 then u else 29) → k < 105 → hrw m' j k = hrw m (if u < 30 then j else j + 1) k
def DnA (pl : Nat) : Nat → Prop := fun x => LkS pl x ∨ (15 ≤ x ∧ x ≤ 20) ∨ x = 27 ∨ (29 ≤ x ∧ x < 209)
def DmA : Nat → Prop := fun x => x = 274 ∨ x = 313 ∨ x = 314 ∨ x = 315 ∨ x = 316 ∨ x = 317 ∨ x = 318
/-- what is done: nothing, or a row is put in place of the last one -/
def DnC (P : Pl) (pl : Nat) (m m' : Me) : Option (Nat → Int32) → Prop
  | none => ClK pl m m'
  | some r => Ch (DnA pl) m m' ∧ CR P (gw m' 15) r ∧ KpC m m'
def DnM (m m' : Me) : Option (Nat → Int32) → Prop
  | none => RfK m m'
  | some r => Ch DmA m m' ∧ (∀ k, k ≠ 57 → k ≠ 60 → k ≠ 61 → k ≠ 63 → gI m' 274 k = gI m 274 k) ∧ (∀ k, k < 105 → gI m' 315 k = r k) ∧ KpM m m'
theorem RoOk.to' {P : Pl} {M : Nat} {r r' : Nat → Int32} (h : RoOk P M r) (e : ∀ k, k < 105 → r' k = r k) : RoOk P M r' := h.to e
theorem HsR.kp {P : Pl} {M M' : Nat} {m m1 m2 : Me} (h : HsR P M m) (q : M ≤ M') (hc : CR P (gw m 15) (gI m 315)) (ho : RoOk P M (gI m 315)) (a : KpC m m1) (b : KpM m1 m2) (e1 : gI m2 27 = gI m1 27) (e2 : ∀ x, 29 ≤ x → x < 209 → gI m2 x = gI m1 x) (e3 : gI m1 274 63 = gI m 274 63) (e4 : gI m1 318 = gI m 318) (e5 : gI m1 315 = gI m 315) : HsR P M' m2 := by
  obtain ⟨s, x, h1, h2, h3, h4, h5, h6⟩ := h
  obtain ⟨a1, a2, a3, a4⟩ := a x s h2 h1 h3 h4
  obtain ⟨b1, b2, b3⟩ := b s h1 (e3.trans h5)
  have g : ∀ z, z < 30 → gw m2 (29 + 6 * z) = gw m1 (29 + 6 * z) := fun z hz => by
    unfold gw
    rw [e2 _ (by omega) (by omega), e2 _ (by omega) (by omega), e2 _ (by omega) (by omega), e2 _ (by omega) (by omega), e2 _ (by omega) (by omega), e2 _ (by omega) (by omega)]
  have e6 : ∀ j k, hrw m1 j k = hrw m j k := fun j k => by unfold hrw; rw [e4]
  refine ⟨if s < 30 then s + 1 else 30, (x + 1) % 30, by split <;> omega, Nat.mod_lt _ (by decide), by rw [e1]; exact a1, by rw [e1]; exact a2, b1, fun j hj => ?_⟩
  by_cases hs : s < 30
  · rw [if_pos hs] at hj ⊢ b2 b3
    by_cases ej : j = s
    · subst ej
      rw [show ((x + 1) % 30 + 30 - (j + 1) + j) % 30 = x by omega, g x h2, a3]
      exact ⟨hc.to (fun k hk => by rw [b2 k hk, e5]), (ho.to (fun k hk => by rw [b2 k hk, e5])).le q⟩
    · rw [show ((x + 1) % 30 + 30 - (s + 1) + j) % 30 = (x + 30 - s + j) % 30 by omega, g _ (Nat.mod_lt _ (by decide)), a4 _ (Nat.mod_lt _ (by decide)) (by omega)]
      obtain ⟨c1, c2⟩ := h6 j (by omega)
      have b3 := fun k hk => b3 j k (by omega) hk
      simp only [hs, if_true] at b3
      exact ⟨c1.to (fun k hk => by rw [b3 k hk, e6]), (c2.to (fun k hk => by rw [b3 k hk, e6])).le q⟩
  · have es : s = 30 := by omega
    subst es
    rw [if_neg hs] at hj ⊢ b2 b3
    by_cases ej : j = 29
    · subst ej
      rw [show ((x + 1) % 30 + 30 - 30 + 29) % 30 = x by omega, g x h2, a3]
      exact ⟨hc.to (fun k hk => by rw [b2 k hk, e5]), (ho.to (fun k hk => by rw [b2 k hk, e5])).le q⟩
    · rw [show ((x + 1) % 30 + 30 - 30 + j) % 30 = (x + 30 - 30 + (j + 1)) % 30 by omega, g _ (Nat.mod_lt _ (by decide)), a4 _ (Nat.mod_lt _ (by decide)) (by omega)]
      obtain ⟨c1, c2⟩ := h6 (j + 1) (by omega)
      have b3 := fun k hk => b3 j k (by omega) hk
      simp only [hs, if_false] at b3
      exact ⟨c1.to (fun k hk => by rw [b3 k hk, e6]), (c2.to (fun k hk => by rw [b3 k hk, e6])).le q⟩
theorem RlP.le {M M' : Nat} {P : Pl} {pl dr lv : Nat} {m : Me} (h : RlP M P pl dr lv m) (q : M ≤ M') : RlP M' P pl dr lv m := by
  obtain ⟨h1, h2, h3, h4, h5, h6, h7, h8, h9, hA, hB, hC, hD, hE, hF⟩ := h
  exact ⟨h1, h2, h3, h4, h5, h6, h7.le q, h8, h9, hA, hB, hC.keep q rfl rfl (fun _ _ _ => rfl) rfl, hD, hE.keep q rfl rfl (fun _ _ _ => rfl) rfl, hF⟩
/-- behind a thing done by both the relation still stands -/
theorem RlP.done {M M' : Nat} {P : Pl} {pl dr lv : Nat} {m m1 m2 : Me} {o : Option (Nat → Int32)} (h : RlP M P pl dr lv m) (q : M ≤ M') (c : DnC P pl m m1 o) (k : DnM m1 m2 o) (hr : ∀ r, o = some r → RoOk P M' r) : RlP M' P pl dr lv m2 := by
  cases o with
  | none => exact (h.look c k).le q
  | some r =>
    obtain ⟨h1, h2, h3, h4, h5, h6, h7, h8, h9, hA, hB, hC, hD, hE, hF⟩ := h
    obtain ⟨c1, c2, c3⟩ := c
    obtain ⟨k1, k2, k3, k4⟩ := k
    have hpd := h2.pd
    have ea : ∀ x, ¬ (x = 14 ∨ x = pl + 12 ∨ x = pl + 13 ∨ (21 ≤ x ∧ x ≤ 26) ∨ (15 ≤ x ∧ x ≤ 20) ∨ x = 27 ∨ (29 ≤ x ∧ x < 209)) → gI m1 x = gI m x := fun x a => c1.at (fun z => a (by unfold DnA LkS at z; omega))
    have eb : ∀ x, ¬ (x = 274 ∨ x = 313 ∨ x = 314 ∨ x = 315 ∨ x = 316 ∨ x = 317 ∨ x = 318) → gI m2 x = gI m1 x := fun x a => k1.at (fun z => a (by unfold DmA at z; exact z))
    have ee : ∀ x, ¬ (x = 14 ∨ x = pl + 12 ∨ x = pl + 13 ∨ (21 ≤ x ∧ x ≤ 26) ∨ (15 ≤ x ∧ x ≤ 20) ∨ x = 27 ∨ (29 ≤ x ∧ x < 209) ∨ x = 274 ∨ x = 313 ∨ x = 314 ∨ x = 315 ∨ x = 316 ∨ x = 317 ∨ x = 318) → gI m2 x = gI m x := fun x a => (eb x (by omega)).trans (ea x (by omega))
    have eR : gR m2 = gR m := k1.2.2.1.trans c1.2.2.1
    have eJ : gJ m2 = gJ m := k1.2.1.trans c1.2.1
    have e1 : m2.1 = m.1 := k1.1.trans c1.1
    have e274 : ∀ q, q ≠ 57 → q ≠ 60 → q ≠ 61 → q ≠ 63 → gI m2 274 q = gI m 274 q := fun q a b d f => by rw [k2 q a b d f, ea 274 (by omega)]
    refine ⟨e1.trans h1, by rw [e1, eR]; exact h2, by rw [e1, eR]; exact h3, h4.keep (fun x a b d => ee x (by omega)), h5, h6.keep (e274 18 (by decide) (by decide) (by decide) (by decide)) (fun x a b => ee x (by omega)), (hr r rfl).to k3, ?_, h9.keep (ee 1 (by omega)) (e274 2 (by decide) (by decide) (by decide) (by decide)) (ee 2 (by omega)) (ee 275 (by omega)), by rw [ee 3 (by omega), e274 17 (by decide) (by decide) (by decide) (by decide)]; exact hA, hB.keep (by rw [eJ]) (by rw [eJ]), hC.kp q h8 h7 c3 k4 (eb 27 (by omega)) (fun x a b => eb x (by omega)) (by rw [ea 274 (by omega)]) (ea 318 (by omega)) (ea 315 (by omega)), hD.keep (by rw [ee 211 (by omega)]) (e274 68 (by decide) (by decide) (by decide) (by decide)) (fun x a b => ee x (by omega)) (fun x a b => ee x (by omega)), hE.keep q (ee 210 (by omega)) (ee 326 (by omega)) (fun x a b => ee x (by omega)) (ee 327 (by omega)), hF.of (ee 320 (by omega)) (e274 54 (by decide) (by decide) (by decide) (by decide)) (ee 312 (by omega))⟩
    have g : gw m2 15 = gw m1 15 := by
      unfold gw
      rw [eb 16 (by omega), eb 17 (by omega), eb 18 (by omega), eb 19 (by omega), eb 20 (by omega), eb 15 (by omega)]
    rw [g]
    exact c2.to k3
theorem mn_30 {s : Nat} (h : s ≤ 30) : (if nI 30 < nI (s + 1) then nI 30 else nI (s + 1)) = nI (if s < 30 then s + 1 else 30) := by
  by_cases q : s < 30
  · rw [if_neg (by rw [nI_ltI (by omega) (by omega)]; omega), if_pos q]
  · rw [if_pos (by rw [nI_ltI (by omega) (by omega)]; omega), if_neg q]
theorem gw_n27 {m : Me} {g : Nat} {r : Nat → Int32} (h : 27 < g) : gw (sI m 27 r) g = gw m g := by
  unfold gw
  rw [gI_n (by omega), gI_n (by omega), gI_n (by omega), gI_n (by omega), gI_n (by omega), gI_n (by omega)]
set_option maxRecDepth 100000 in
set_option maxHeartbeats 4000000 in
theorem ev_keep {m : Me} {x s : Nat} (hp : Wf6 m.1 (gR m) 27) (hw : Wf1 m.1 (gR m) 15) (hx30 : x < 30) (hs30 : s ≤ 30) (h1 : gI m 27 1 = nI x) (h2 : gI m 27 2 = nI s) : Ev mX6_keep [.ref 27, .ref 15] m (fun o m' => o = none ∧ Ch (fun y => y = 27 ∨ (29 ≤ y ∧ y < 209)) m m' ∧ gI m' 27 1 = nI ((x + 1) % 30) ∧ gI m' 27 2 = nI (if s < 30 then s + 1 else 30) ∧ gw m' (29 + 6 * x) = gw m 15 ∧ ∀ j, j < 30 → j ≠ x → gw m' (29 + 6 * j) = gw m (29 + 6 * j)) := by
  refine ⟨plmX6_keep, nle rfl, ?_⟩
  refine go_aload_n (q := 0) (i := 0) rfl rfl dX6_keep_0 ?_
  refine go_getI lf6_22 rfl hp.o dX6_keep_1 ?_
  rw [h1]
  refine gz_lt (by omega) (tgt := 57) dX6_keep_4 (by decide) (fun h4 => by exfalso; omega) (fun h4 => ?_)
  refine go_aload_n (q := 0) (i := 0) rfl rfl dX6_keep_7 ?_
  refine go_getI lf6_22 rfl hp.o dX6_keep_8 ?_
  rw [h1]
  refine go_bipush (v := nI 30) (by decide) dX6_keep_11 ?_
  refine gn_ge (by omega) (by omega) (tgt := 57) dX6_keep_13 (by decide) (fun h13 => by exfalso; omega) (fun h13 => ?_)
  refine go_aload_n (q := 0) (i := 0) rfl rfl dX6_keep_16 ?_
  refine go_getR lf6_11 rfl hp.o hp.r0 dX6_keep_17 ?_
  refine go_aload_n (q := 0) (i := 0) rfl rfl dX6_keep_20 ?_
  refine go_getI lf6_22 rfl hp.o dX6_keep_21 ?_
  rw [h1]
  refine go_aald (j := x) hp.i0 (by omega) (by first | decide | omega) rfl (hp.ring x hx30).1 dX6_keep_24 ?_
  refine go_aload_n (q := 1) (i := 1) rfl rfl dX6_keep_25 ?_
  refine go_callV okmX1_copyFrom lmX6_25 ⟨nle rfl, nle rfl⟩ (hp.ring x hx30).2.o ⟨by decide, rfl⟩ (ev_copyFrom (hp.ring x hx30).2 hw (by omega)) npmX1_copyFrom rfl (nle rfl) ⟨nle rfl, nle rfl⟩ dX6_keep_26 ?_
  rintro _ m1 ⟨rfl, cA, eA⟩
  have hp0 := hp
  have hp : Wf6 m1.1 (gR m1) 27 := Ch.to (F := fun n R => Wf6 n R 27) cA hp0
  refine go_c0 ?_
  refine go_aload_n (q := 0) (i := 0) rfl rfl dX6_keep_29 ?_
  refine go_aload_n (q := 0) (i := 0) rfl rfl dX6_keep_30 ?_
  refine go_getI lf6_22 rfl hp.o dX6_keep_31 ?_
  rw [cA.at (show ¬ _ by omega), h1]
  refine go_iconst (v := nI 1) (by decide) dX6_keep_34 ?_
  refine gn_add dX6_keep_35 ?_
  refine go_bipush (v := nI 30) (by decide) dX6_keep_36 ?_
  refine gn_rem (by omega) (by omega) (by omega) dX6_keep_38 ?_
  refine go_putI lf6_22 rfl (Or.inl rfl) hp.o dX6_keep_39 ?_
  refine go_aload_n (q := 0) (i := 0) rfl rfl dX6_keep_42 ?_
  refine go_aload_n (q := 0) (i := 0) rfl rfl dX6_keep_43 ?_
  refine go_getI lf6_18 rfl hp.o dX6_keep_44 ?_
  rw [gI_s, upd_ne (by decide), cA.at (show ¬ _ by omega), h2]
  refine go_iconst (v := nI 1) (by decide) dX6_keep_47 ?_
  refine gn_add dX6_keep_48 ?_
  refine go_bipush (v := nI 30) (by decide) dX6_keep_49 ?_
  refine go_min okMin (wg4 127 rfl rfl) ⟨nle rfl, nle rfl⟩ ⟨Nat.zero_le _, Nat.zero_le _⟩ dX6_keep_51 ?_
  rw [show (if nI 30 < nI (s + 1) then nI 30 else nI (s + 1)) = nI (if s < 30 then s + 1 else 30) from mn_30 hs30]
  refine go_putI lf6_18 rfl (Or.inl rfl) hp.o dX6_keep_54 ?_
  refine go_vret rfl ⟨Nat.zero_le _, Nat.zero_le _⟩ dX6_keep_57 ?_
  refine ⟨rfl, (cA.mn (fun y hy => by omega)).tr (Ch.i (Ch.i Ch.rf (Or.inl rfl)) (Or.inl rfl)), ?_, ?_, ?_, fun j hj hne => ?_⟩
  · rw [gI_s, upd_ne (by decide), gI_s, upd_eq]
  · rw [gI_s, upd_eq]
  · rw [gw_n27 (by omega), gw_n27 (by omega)]; exact eA
  · rw [gw_n27 (by omega), gw_n27 (by omega)]
    exact gw_keep cA (fun y a b => by omega)
set_option maxRecDepth 100000 in
set_option maxHeartbeats 8000000 in
theorem go_rec2 {m : Me} {u : Nat} {Q : Option Value → Me → Prop} (hx : Wf12 m.1 (gR m)) (hu : u < 30) (h1 : gI m 274 63 = nI u) (x1 : Option Value) (hQ : ∀ m', Ch (fun x => x = 274 ∨ x = 315 ∨ x = 318) m m' → (∀ k, k ≠ 63 → gI m' 274 k = gI m 274 k) → gI m' 274 63 = nI (u + 1) → (∀ k, k < 105 → gI m' 315 k = gI m 316 k) → (∀ k, k < 105 → hrw m' u k = gI m 315 k) → (∀ j k, j < u → k < 105 → hrw m' j k = hrw m j k) → Q none m') : Go mX12_records Q 49 [some (.ref 274), x1] [] m 0 0 := by
  have hx0 := hx
  have key : ∀ k, k ≤ 105 → ∀ mk : Me, Ch (fun x => x = 318) m mk → (∀ z, z < k → gI mk 318 (105 * u + z) = gI m 315 z) → (∀ z, z < 105 * u → gI mk 318 z = gI m 318 z) → Go mX12_records Q 51 [some (.ref 274), some (.int (nI k))] [] mk 0 0 := by
    refine loop_up 105 ?_ ?_
    · intro mk ck hk hl
      have hx := CX12 ck hx0
      refine go_iload_n (q := 1) (i := 1) rfl rfl dX12_records_51 ?_
      refine go_bipush (v := nI 105) (by decide) dX12_records_52 ?_
      refine gn_ge (by omega) (by omega) (tgt := 83) dX12_records_54 (by decide) (fun h54 => ?_) (fun h54 => by exfalso; omega)
      refine go_aload_n (q := 0) (i := 0) rfl rfl dX12_records_83 ?_
      refine go_dup rfl dX12_records_84 ?_
      refine go_getI lf12_286 rfl hx.o dX12_records_85 ?_
      rw [ck.at (show ¬ _ by omega), h1]
      refine go_iconst (v := nI 1) (by decide) dX12_records_88 ?_
      refine gn_add dX12_records_89 ?_
      refine go_putI lf12_286 rfl (Or.inl rfl) hx.o dX12_records_90 ?_
      refine go_aload_n (q := 0) (i := 0) rfl rfl dX12_records_93 ?_
      refine go_callV okmX12_keepsRow lmX12_190 ⟨nle rfl, nle rfl⟩ hx.o ⟨by decide, rfl⟩ (ex_keepsRow hx) npmX12_keepsRow rfl (nle rfl) ⟨nle rfl, nle rfl⟩ dX12_records_94 ?_
      rintro _ m2 ⟨rfl, e2⟩
      subst e2
      refine go_c0 ?_
      refine go_vret rfl ⟨Nat.zero_le _, Nat.zero_le _⟩ dX12_records_97 ?_
      refine hQ _ (Ch.i (Ch.i (ck.mn (fun x z => Or.inr (Or.inr z))) (Or.inl rfl)) (Or.inr (Or.inl rfl))) ?_ ?_ ?_ ?_ ?_
      · intro k hk_
        rw [gI_n (by decide), gI_s, upd_ne hk_, ck.at (by omega)]
      · rw [gI_n (by decide), gI_s, upd_eq]
      · intro k hk_
        rw [gI_s, cp_in hk_, gI_n (by decide), ck.at (by omega)]
      · intro k hk_
        unfold hrw
        rw [gI_n (by decide), gI_n (by decide)]
        exact hk k hk_
      · intro j k hj hk_
        unfold hrw
        rw [gI_n (by decide), gI_n (by decide)]
        exact hl _ (by have : 105 * (j + 1) ≤ 105 * u := Nat.mul_le_mul_left 105 hj
                       omega)
    · intro k hkk ihk mk ck hk hl
      have hx := CX12 ck hx0
      refine go_iload_n (q := 1) (i := 1) rfl rfl dX12_records_51 ?_
      refine go_bipush (v := nI 105) (by decide) dX12_records_52 ?_
      refine gn_ge (by omega) (by omega) (tgt := 83) dX12_records_54 (by decide) (fun h54 => by exfalso; omega) (fun h54 => ?_)
      refine go_aload_n (q := 0) (i := 0) rfl rfl dX12_records_57 ?_
      refine go_getR lf12_149 rfl hx.o hx.r64 dX12_records_58 ?_
      refine go_bipush (v := nI 105) (by decide) dX12_records_61 ?_
      refine go_aload_n (q := 0) (i := 0) rfl rfl dX12_records_63 ?_
      refine go_getI lf12_286 rfl hx.o dX12_records_64 ?_
      rw [ck.at (show ¬ _ by omega), h1]
      refine gn_mul dX12_records_67 ?_
      refine go_iload_n (q := 1) (i := 1) rfl rfl dX12_records_68 ?_
      refine gn_add dX12_records_69 ?_
      refine go_aload_n (q := 0) (i := 0) rfl rfl dX12_records_70 ?_
      refine go_getR lf12_140 rfl hx.o hx.r58 dX12_records_71 ?_
      refine go_iload_n (q := 1) (i := 1) rfl rfl dX12_records_74 ?_
      refine go_iald (j := k) hx.i58 (by omega) (by first | decide | omega) rfl dX12_records_75 ?_
      rw [show gI mk 315 k = gI m 315 k by rw [ck.at (show ¬ _ by omega)]]
      refine go_iast (j := ((105 * u) + k)) hx.i64 (by omega) (by first | decide | omega) rfl dX12_records_76 ?_
      refine gn_inc (i := 1) (a := k) (q := 1) rfl dX12_records_77 (nle rfl) rfl ?_
      refine go_goto (tgt := 51) dX12_records_80 (by decide) ?_
      refine ihk _ (ck.tr (Ch.I rfl)) (fun z hz => ?_) (fun z hz => ?_)
      · rw [gI_s]
        by_cases e : z = k
        · rw [e, upd_eq]
        · rw [upd_ne (by omega)]; exact hk z (by omega)
      · rw [gI_s, upd_ne (by omega)]; exact hl z hz
  refine go_iconst (v := nI 0) (by decide) dX12_records_49 ?_
  refine go_istore_n (q := 1) (i := 1) rfl dX12_records_50 (nle rfl) (nle rfl) ?_
  exact key 0 (Nat.zero_le _) m Ch.rf (fun z hz => absurd hz (Nat.not_lt_zero z)) (fun _ _ => rfl)
set_option maxRecDepth 100000 in
set_option maxHeartbeats 8000000 in
theorem ex_records {m : Me} {u : Nat} (hx : Wf12 m.1 (gR m)) (hu : u ≤ 30) (h1 : gI m 274 63 = nI u) : Ev mX12_records [.ref 274] m (fun o m' => o = none ∧ Ch (fun x => x = 274 ∨ x = 315 ∨ x = 318) m m' ∧ (∀ k, k ≠ 63 → gI m' 274 k = gI m 274 k) ∧ (∀ k, k < 105 → gI m' 315 k = gI m 316 k) ∧ KpM m m') := by
  refine ⟨plmX12_records, nle rfl, ?_⟩
  have hx0 := hx
  by_cases e30 : u = 30
  · skip
    subst e30
    have key : ∀ k, k ≤ 3045 → ∀ mk : Me, Ch (fun x => x = 318) m mk → (∀ z, z < k → gI mk 318 z = gI m 318 (z + 105)) → (∀ z, k ≤ z → gI mk 318 z = gI m 318 z) → Go mX12_records (fun o m' => o = none ∧ Ch (fun x => x = 274 ∨ x = 315 ∨ x = 318) m m' ∧ (∀ k, k ≠ 63 → gI m' 274 k = gI m 274 k) ∧ (∀ k, k < 105 → gI m' 315 k = gI m 316 k) ∧ KpM m m') 11 [some (.ref 274), some (.int (nI k))] [] mk 0 0 := by
      refine loop_up 3045 ?_ ?_
      · intro mk ck hk hl
        have hx := CX12 ck hx0
        refine go_iload_n (q := 1) (i := 1) rfl rfl dX12_records_11 ?_
        refine go_sipush (v := nI 3045) (by decide) dX12_records_12 ?_
        refine gn_ge (by omega) (by omega) (tgt := 39) dX12_records_15 (by decide) (fun h15 => ?_) (fun h15 => by exfalso; omega)
        refine go_aload_n (q := 0) (i := 0) rfl rfl dX12_records_39 ?_
        refine go_dup rfl dX12_records_40 ?_
        refine go_getI lf12_286 rfl hx.o dX12_records_41 ?_
        rw [ck.at (show ¬ _ by omega), h1]
        refine go_iconst (v := nI 1) (by decide) dX12_records_44 ?_
        refine gn_sub (by omega) dX12_records_45 ?_
        refine go_putI lf12_286 rfl (Or.inl rfl) hx.o dX12_records_46 ?_
        refine go_rec2 (m := sI mk 274 (upd (gI mk 274) 63 (nI (30 - 1)))) (u := 29) hx (by decide) (by rw [gI_s, upd_eq]) _ (fun m' c d e f g h => ⟨rfl, ((show Ch (fun x => x = 274 ∨ x = 315 ∨ x = 318) m (sI mk 274 (upd (gI mk 274) 63 (nI (30 - 1)))) from Ch.i (ck.mn (fun x z => Or.inr (Or.inr z))) (Or.inl rfl)).tr c), fun k hk_ => ?_, fun k hk_ => ?_, ?_⟩)
        · rw [d k hk_, gI_s, upd_ne hk_, ck.at (by omega)]
        · rw [f k hk_, gI_n (by decide), ck.at (by omega)]
        · intro u hu h2
          have eu : u = 30 := (nI_eq (by omega) (by decide)).mp (h2.symm.trans h1)
          subst eu
          rw [if_neg (Nat.lt_irrefl 30), if_neg (Nat.lt_irrefl 30)]
          refine ⟨e, fun k hk_ => ?_, fun j k hj hk_ => ?_⟩
          · rw [g k hk_, gI_n (by decide), ck.at (by omega)]
          · rw [h j k hj hk_, if_neg (Nat.lt_irrefl 30)]
            unfold hrw
            rw [gI_n (by decide), hk _ (by omega), show 105 * (j + 1) + k = 105 * j + k + 105 by omega]
      · intro k hkk ihk mk ck hk hl
        have hx := CX12 ck hx0
        refine go_iload_n (q := 1) (i := 1) rfl rfl dX12_records_11 ?_
        refine go_sipush (v := nI 3045) (by decide) dX12_records_12 ?_
        refine gn_ge (by omega) (by omega) (tgt := 39) dX12_records_15 (by decide) (fun h15 => by exfalso; omega) (fun h15 => ?_)
        refine go_aload_n (q := 0) (i := 0) rfl rfl dX12_records_18 ?_
        refine go_getR lf12_149 rfl hx.o hx.r64 dX12_records_19 ?_
        refine go_iload_n (q := 1) (i := 1) rfl rfl dX12_records_22 ?_
        refine go_aload_n (q := 0) (i := 0) rfl rfl dX12_records_23 ?_
        refine go_getR lf12_149 rfl hx.o hx.r64 dX12_records_24 ?_
        refine go_iload_n (q := 1) (i := 1) rfl rfl dX12_records_27 ?_
        refine go_bipush (v := nI 105) (by decide) dX12_records_28 ?_
        refine gn_add dX12_records_30 ?_
        refine go_iald (j := (k + 105)) hx.i64 (by omega) (by first | decide | omega) rfl dX12_records_31 ?_
        rw [hl (k + 105) (by omega)]
        refine go_iast (j := k) hx.i64 (by omega) (by first | decide | omega) rfl dX12_records_32 ?_
        refine gn_inc (i := 1) (a := k) (q := 1) rfl dX12_records_33 (nle rfl) rfl ?_
        refine go_goto (tgt := 11) dX12_records_36 (by decide) ?_
        refine ihk _ (ck.tr (Ch.I rfl)) (fun z hz => ?_) (fun z hz => ?_)
        · rw [gI_s]
          by_cases e : z = k
          · rw [e, upd_eq]
          · rw [upd_ne e]; exact hk z (by omega)
        · rw [gI_s, upd_ne (by omega)]; exact hl z (by omega)
    refine go_aload_n (q := 0) (i := 0) rfl rfl dX12_records_0 ?_
    refine go_getI lf12_286 rfl hx.o dX12_records_1 ?_
    rw [h1]
    refine go_bipush (v := nI 30) (by decide) dX12_records_4 ?_
    refine gn_ne (by omega) (by omega) (tgt := 49) dX12_records_6 (by decide) (fun h6 => by exfalso; omega) (fun h6 => ?_)
    refine go_iconst (v := nI 0) (by decide) dX12_records_9 ?_
    refine go_istore_n (q := 1) (i := 1) rfl dX12_records_10 (nle rfl) (nle rfl) ?_
    exact key 0 (Nat.zero_le _) m Ch.rf (fun z hz => absurd hz (Nat.not_lt_zero z)) (fun _ _ => rfl)
  · skip
    refine go_aload_n (q := 0) (i := 0) rfl rfl dX12_records_0 ?_
    refine go_getI lf12_286 rfl hx.o dX12_records_1 ?_
    rw [h1]
    refine go_bipush (v := nI 30) (by decide) dX12_records_4 ?_
    refine gn_ne (by omega) (by omega) (tgt := 49) dX12_records_6 (by decide) (fun h6 => ?_) (fun h6 => by exfalso; omega)
    refine go_rec2 (u := u) hx (by omega) h1 _ (fun m' c d e f g h => ⟨rfl, c, d, f, fun v hv h2 => ?_⟩)
    have eu : v = u := (nI_eq (by omega) (by omega)).mp (h2.symm.trans h1)
    subst eu
    rw [if_pos (show v < 30 by omega), if_pos (show v < 30 by omega)]
    refine ⟨e, g, fun j k hj hk_ => ?_⟩
    rw [if_pos (show v < 30 by omega)]
    exact h j k hj hk_
