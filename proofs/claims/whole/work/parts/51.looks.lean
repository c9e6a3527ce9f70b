theorem PlC.wd {m : Me} {pl : Nat} {P : Pl} (h : PlC m pl P) : gI m pl 0 = nI P.wd := h.1
theorem PlC.rw {m : Me} {pl : Nat} {P : Pl} (h : PlC m pl P) : gI m pl 1 = nI P.rw := h.2.1
theorem PlC.hd {m : Me} {pl : Nat} {P : Pl} (h : PlC m pl P) : gI m pl 2 = nI P.hd := h.2.2.1
theorem PlC.us {m : Me} {pl : Nat} {P : Pl} (h : PlC m pl P) : gI m pl 3 = nI P.us := h.2.2.2.1
theorem PlC.bk {m : Me} {pl : Nat} {P : Pl} (h : PlC m pl P) : gI m pl 4 = nI P.bk := h.2.2.2.2.1
theorem PlC.gu {m : Me} {pl : Nat} {P : Pl} (h : PlC m pl P) : gI m pl 5 = P.gu := h.2.2.2.2.2.1
theorem PlC.le {m : Me} {pl : Nat} {P : Pl} (h : PlC m pl P) : gI m pl 6 = P.le := h.2.2.2.2.2.2.1
theorem PlC.se {m : Me} {pl : Nat} {P : Pl} (h : PlC m pl P) : gI m pl 7 = P.se := h.2.2.2.2.2.2.2.1
theorem PlC.wh {m : Me} {pl : Nat} {P : Pl} (h : PlC m pl P) : ∀ c, c < 40 → gI m (pl + 1) c = if ld P c then P.wh c else -1 := h.2.2.2.2.2.2.2.2.1
theorem PlC.fo {m : Me} {pl : Nat} {P : Pl} (h : PlC m pl P) : ∀ c, c < 40 → gI m (pl + 2) c = if ld P c then P.fo c else nI 0 := h.2.2.2.2.2.2.2.2.2.1
theorem PlC.rs {m : Me} {pl : Nat} {P : Pl} (h : PlC m pl P) : ∀ h, h < 4 → gI m (pl + 3) h = P.ra h ∧ gI m (pl + 4) h = P.st h := h.2.2.2.2.2.2.2.2.2.2.1
theorem PlC.uu {m : Me} {pl : Nat} {P : Pl} (h : PlC m pl P) : ∀ u, u < P.us → gI m (pl + 5) u = P.uo u ∧ gI m (pl + 6) u = P.uf u ∧ gI m (pl + 7) u = P.ut u ∧ gI m (pl + 8) u = P.uk u := h.2.2.2.2.2.2.2.2.2.2.2.1
theorem PlC.lw {m : Me} {pl : Nat} {P : Pl} (h : PlC m pl P) : LwC m pl P := h.2.2.2.2.2.2.2.2.2.2.2.2
/-- a cell, or none -/
abbrev ceS (P : Pl) (x y : Int32) : Int32 := caS (nI P.wd) (nI P.rw) x y
theorem ce_c {P : Pl} (ok : PlOk P) (x y : Int32) : (ceS P x y = -1 ∧ icS P x y = nI 0) ∨ ∃ a b, a < P.wd ∧ b < P.rw ∧ x = nI a ∧ y = nI b ∧ ceS P x y = nI (8 * b + a) ∧ icS P x y = nI 1 := by
  rcases ic_ca ok x y with ⟨h1, h2⟩ | ⟨h1, a, b, h3, h4, h5, h6, h7⟩
  · exact Or.inl ⟨h2, h1⟩
  · exact Or.inr ⟨a, b, h3, h4, h5, h6, h7, h1⟩
/-- 0 .. N, or not -/
theorem in_c (v : Int32) {N : Nat} (hN : N < 2 ^ 20) : inS v (nI 0) (nI N) = nI 0 ∨ ∃ j, j ≤ N ∧ v = nI j ∧ inS v (nI 0) (nI N) = nI 1 := by
  by_cases h0 : v < 0
  · left; unfold inS; rw [if_pos (by rw [nI_0]; exact h0)]
  by_cases h1 : nI N < v
  · left; unfold inS; rw [if_neg (by rw [nI_0]; exact h0), if_pos h1]
  · right
    obtain ⟨j, hj, rfl⟩ := nI_of h0
    rw [nI_ltI (by omega) hj] at h1
    refine ⟨j, by omega, rfl, ?_⟩
    unfold inS
    rw [if_neg (by rw [nI_0]; exact h0), if_neg (by rw [nI_ltI (by omega) hj]; exact h1)]
theorem ah_in (v : Int32) : ahS v = inS v (nI 0) (nI 72) := by
  unfold ahS inS
  rw [nI_0]
theorem th_in (v : Int32) : thS v = inS v (nI 0) (nI 99) := by
  unfold thS inS
  rw [nI_0]
theorem has_in {n mx : Nat} (h : n ≤ mx) (hm : mx < 2 ^ 20) (v : Int32) : hasS (nI n) (nI mx) v = inS v (nI 0) (nI n - nI 1) := by
  unfold hasS inS
  by_cases h0 : v < 0
  · rw [if_pos h0, if_pos (by rw [nI_0]; exact h0)]
  rw [if_neg h0, if_neg (show ¬ v < nI 0 by rw [nI_0]; exact h0)]
  obtain ⟨j, hj, rfl⟩ := nI_of h0
  have e : nI n - nI 1 < nI j ↔ n ≤ j := by
    rw [Int32.lt_iff_toInt_lt, pk_sub_toInt (by omega) (by omega), nI_toInt hj]; omega
  by_cases h1 : n ≤ j
  · rw [if_pos (by rw [nI_leI (by omega) hj]; exact h1), if_pos (e.mpr h1)]
  · rw [if_neg (by rw [nI_leI (by omega) hj]; exact h1), if_neg (fun q => h1 (e.mp q)), if_neg (by rw [nI_leI (by omega) hj]; omega)]
theorem hd_c {n : Nat} (hn : n < 2 ^ 20) (v : Int32) : inS v (nI 0) (nI n - nI 1) = nI 0 ∨ ∃ j, j < n ∧ v = nI j ∧ inS v (nI 0) (nI n - nI 1) = nI 1 := by
  have e : hasS (nI n) (nI n) v = inS v (nI 0) (nI n - nI 1) := has_in (Nat.le_refl n) hn v
  rw [← e]
  unfold hasS
  by_cases h0 : v < 0
  · left; rw [if_pos h0]
  by_cases h1 : nI n ≤ v
  · left; rw [if_neg h0, if_pos h1]
  · right
    obtain ⟨j, hj, rfl⟩ := nat_of (n := n) rfl (by omega) h0 h1
    exact ⟨j, hj, rfl, by rw [if_neg h0, if_neg h1, if_neg h1]⟩
theorem CR.to {P : Pl} {c r r' : Nat → Int32} (h : CR P c r) (e : ∀ k, k < 105 → r' k = r k) : CR P c r' := fun k hk => by rw [h k hk, e k hk]
theorem RoOk.to {P : Pl} {M : Nat} {r r' : Nat → Int32} (h : RoOk P M r) (e : ∀ k, k < 105 → r' k = r k) : RoOk P M r' := by
  obtain ⟨⟨a, b⟩, c, d, f⟩ := h
  exact ⟨⟨fun k hk => by rw [e k (by omega)]; exact a k hk, fun k hk l => by rw [e k (by omega)]; exact b k hk l⟩, fun k hk l => by rw [e _ (by omega)]; exact c k hk l, fun k hk => by rw [e _ (by omega)]; exact d k hk, by rw [e 104 (by omega)]; exact f⟩
noncomputable def thenS (P : Pl) (r : Nat → Int32) (x y n : Int32) : Int32 := if ceS P x y < 0 then -1 else if inS n (nI 0) (nI 72) = nI 0 then -1 else hrN P (-1) P.se n.toNatClampNeg r (ceS P x y).toNatClampNeg
set_option maxRecDepth 100000 in
set_option maxHeartbeats 8000000 in
theorem ev_then {m : Me} {pl dr M : Nat} {P : Pl} {r : Nat → Int32} (hX : CX m.1 (gR m) pl dr) (hP : PlC m pl P) (ok : PlOk P) (hM : M < 2 ^ 18) (hr : RoOk P M r) (hc : CR P (gw m 15) r) {x y n : Int32} : Ev mX11_then [.ref 0, .int x, .int y, .int n] m (fun o m' => o = some (.int (thenS P r x y n)) ∧ Ch (LkS pl) m m') := by
  refine ⟨plmX11_then, nle rfl, ?_⟩
  have hw8 := ok.1
  have hr5 := ok.2.1
  have hpd := hX.pd
  rcases ce_c ok x y with ⟨hca, hic⟩ | ⟨a, b, ha, hb, rfl, rfl, hca, hic⟩
  · skip
    refine go_aload_n (q := 0) (i := 0) rfl rfl dX11_then_0 ?_
    refine go_getR lf11_86 rfl hX.o hX.rp dX11_then_1 ?_
    refine go_iload_n (q := 1) (i := 1) rfl rfl dX11_then_4 ?_
    refine go_iload_n (q := 2) (i := 2) rfl rfl dX11_then_5 ?_
    refine go_callV okmX7_cellAt lmX11_126 ⟨nle rfl, nle rfl⟩ hX.wp.o ⟨by decide, rfl⟩ (ev_cellAt hX.wp) npmX7_cellAt rfl (nle rfl) ⟨nle rfl, nle rfl⟩ dX11_then_6 ?_
    rintro _ mz ⟨rfl, hz⟩
    subst mz
    rw [hP.wd, hP.rw, show caS (nI P.wd) (nI P.rw) _ _ = _ from hca]
    refine go_c1 ?_
    refine go_istore (i := 4) dX11_then_9 (nle rfl) (nle rfl) ?_
    refine go_iload (i := 4) rfl dX11_then_11 ?_
    refine go_if_lt (tgt := 30) dX11_then_13 (by decide) (fun h13 => ?_) (fun h13 => by exfalso; exact h13 (by decide))
    refine go_iconst (v := -1) (by decide) dX11_then_30 ?_
    refine go_iret rfl ⟨Nat.zero_le _, Nat.zero_le _⟩ dX11_then_31 ?_
    refine ⟨?_, Ch.rf⟩
    unfold thenS
    rw [hca, if_pos (by decide)]
  · skip
    rcases in_c n (N := 72) (by decide) with hn | ⟨j, hj, rfl, hn⟩
    · skip
      refine go_aload_n (q := 0) (i := 0) rfl rfl dX11_then_0 ?_
      refine go_getR lf11_86 rfl hX.o hX.rp dX11_then_1 ?_
      refine go_iload_n (q := 1) (i := 1) rfl rfl dX11_then_4 ?_
      refine go_iload_n (q := 2) (i := 2) rfl rfl dX11_then_5 ?_
      refine go_callV okmX7_cellAt lmX11_126 ⟨nle rfl, nle rfl⟩ hX.wp.o ⟨by decide, rfl⟩ (ev_cellAt hX.wp) npmX7_cellAt rfl (nle rfl) ⟨nle rfl, nle rfl⟩ dX11_then_6 ?_
      rintro _ mz ⟨rfl, hz⟩
      subst mz
      rw [hP.wd, hP.rw, show caS (nI P.wd) (nI P.rw) _ _ = _ from hca]
      refine go_c1 ?_
      refine go_istore (i := 4) dX11_then_9 (nle rfl) (nle rfl) ?_
      refine go_iload (i := 4) rfl dX11_then_11 ?_
      refine gz_lt (by omega) (tgt := 30) dX11_then_13 (by decide) (fun h13 => by exfalso; omega) (fun h13 => ?_)
      refine go_iload (i := 4) rfl dX11_then_16 ?_
      refine go_bipush (v := nI 40) (by decide) dX11_then_18 ?_
      refine gn_ge (by omega) (by omega) (tgt := 30) dX11_then_20 (by decide) (fun h20 => by exfalso; omega) (fun h20 => ?_)
      refine go_iload_n (q := 3) (i := 3) rfl rfl dX11_then_23 ?_
      refine go_callS okmX11_isAhead lmX11_219 ⟨nle rfl, nle rfl⟩ (ev_isAhead) npmX11_isAhead rfl (nle rfl) ⟨nle rfl, nle rfl⟩ dX11_then_24 ?_
      rintro _ mz ⟨rfl, hz⟩
      subst mz
      rw [ah_in, hn]
      refine go_c1 ?_
      refine gz_ne (by omega) (tgt := 32) dX11_then_27 (by decide) (fun h27 => by exfalso; omega) (fun h27 => ?_)
      refine go_iconst (v := -1) (by decide) dX11_then_30 ?_
      refine go_iret rfl ⟨Nat.zero_le _, Nat.zero_le _⟩ dX11_then_31 ?_
      refine ⟨?_, Ch.rf⟩
      unfold thenS
      rw [hca, if_neg (nI_pos (by omega)), if_pos hn]
    · skip
      refine go_aload_n (q := 0) (i := 0) rfl rfl dX11_then_0 ?_
      refine go_getR lf11_86 rfl hX.o hX.rp dX11_then_1 ?_
      refine go_iload_n (q := 1) (i := 1) rfl rfl dX11_then_4 ?_
      refine go_iload_n (q := 2) (i := 2) rfl rfl dX11_then_5 ?_
      refine go_callV okmX7_cellAt lmX11_126 ⟨nle rfl, nle rfl⟩ hX.wp.o ⟨by decide, rfl⟩ (ev_cellAt hX.wp) npmX7_cellAt rfl (nle rfl) ⟨nle rfl, nle rfl⟩ dX11_then_6 ?_
      rintro _ mz ⟨rfl, hz⟩
      subst mz
      rw [hP.wd, hP.rw, show caS (nI P.wd) (nI P.rw) _ _ = _ from hca]
      refine go_c1 ?_
      refine go_istore (i := 4) dX11_then_9 (nle rfl) (nle rfl) ?_
      refine go_iload (i := 4) rfl dX11_then_11 ?_
      refine gz_lt (by omega) (tgt := 30) dX11_then_13 (by decide) (fun h13 => by exfalso; omega) (fun h13 => ?_)
      refine go_iload (i := 4) rfl dX11_then_16 ?_
      refine go_bipush (v := nI 40) (by decide) dX11_then_18 ?_
      refine gn_ge (by omega) (by omega) (tgt := 30) dX11_then_20 (by decide) (fun h20 => by exfalso; omega) (fun h20 => ?_)
      refine go_iload_n (q := 3) (i := 3) rfl rfl dX11_then_23 ?_
      refine go_callS okmX11_isAhead lmX11_219 ⟨nle rfl, nle rfl⟩ (ev_isAhead) npmX11_isAhead rfl (nle rfl) ⟨nle rfl, nle rfl⟩ dX11_then_24 ?_
      rintro _ mz ⟨rfl, hz⟩
      subst mz
      rw [ah_in, hn]
      refine go_c1 ?_
      refine gz_ne (by omega) (tgt := 32) dX11_then_27 (by decide) (fun h27 => ?_) (fun h27 => by exfalso; omega)
      refine go_aload_n (q := 0) (i := 0) rfl rfl dX11_then_32 ?_
      refine go_getR lf11_51 rfl hX.o hX.r6 dX11_then_33 ?_
      refine go_aload_n (q := 0) (i := 0) rfl rfl dX11_then_36 ?_
      refine go_getR lf11_47 rfl hX.o hX.r5 dX11_then_37 ?_
      refine go_callV okmX1_copyFrom lmX11_205 ⟨nle rfl, nle rfl⟩ hX.w6.o ⟨by decide, rfl⟩ (ev_copyFrom hX.w6 hX.w5 (by omega)) npmX1_copyFrom rfl (nle rfl) ⟨nle rfl, nle rfl⟩ dX11_then_40 ?_
      rintro _ m1 ⟨rfl, cA, eA⟩
      have c1 : Ch (LkS pl) m m1 := cA.mn (fun x hx => by unfold LkS; omega)
      have hP := hP.lk hX c1
      have hX := CX.to c1 hX
      have hc1 : CR P (gw m1 21) r := by rw [eA]; exact hc
      refine go_c0 ?_
      refine go_aload_n (q := 0) (i := 0) rfl rfl dX11_then_43 ?_
      refine go_iload_n (q := 3) (i := 3) rfl rfl dX11_then_44 ?_
      refine go_aload_n (q := 0) (i := 0) rfl rfl dX11_then_45 ?_
      refine go_getR lf11_86 rfl hX.o hX.rp dX11_then_46 ?_
      refine go_getI lf11_208 rfl hX.wp.o dX11_then_49 ?_
      rw [hP.se]
      refine go_callV okmX11_passLater lmX11_211 ⟨nle rfl, nle rfl⟩ hX.o ⟨by decide, rfl⟩ (ev_passLater (M := M) hX hP ok (by omega) hM hr hc1) npmX11_passLater rfl (nle rfl) ⟨nle rfl, nle rfl⟩ dX11_then_52 ?_
      rintro _ m2 ⟨rfl, cB, hc2⟩
      have c2 := c1.tr cB
      have hP := hP.lk hX cB
      have hX := CX.to cB hX
      refine go_c0 ?_
      refine go_aload_n (q := 0) (i := 0) rfl rfl dX11_then_55 ?_
      refine go_getR lf11_51 rfl hX.o hX.r6 dX11_then_56 ?_
      refine go_getR lf11_130 rfl hX.w6.o hX.w6.r1 dX11_then_59 ?_
      refine go_iload (i := 4) rfl dX11_then_62 ?_
      refine go_iald (j := (8 * b + a)) hX.w6.i1 (by omega) (by first | decide | omega) rfl dX11_then_64 ?_
      refine go_iret rfl ⟨Nat.zero_le _, Nat.zero_le _⟩ dX11_then_65 ?_
      refine ⟨?_, c2⟩
      unfold thenS
      rw [hca, if_neg (nI_pos (by omega)), if_neg (by rw [hn]; decide), nI_clamp (by omega), nI_clamp (by omega), gw_f (by omega), hc2.f (by omega)]
set_option maxRecDepth 100000 in
set_option maxHeartbeats 4000000 in
theorem ex_isLong {m : Me} {v : Int32} : Ev mX12_isLong [.int v] m (fun r m' => r = some (.int (inS v (nI 0) (nI 72))) ∧ m' = m) := by
  refine ⟨plmX12_isLong, nle rfl, ?_⟩
  refine go_iload_n (q := 0) (i := 0) rfl rfl dX12_isLong_0 ?_
  refine go_iconst (v := nI 0) (by decide) dX12_isLong_1 ?_
  refine go_bipush (v := nI 72) (by decide) dX12_isLong_2 ?_
  refine go_callS okmX12_in lmX12_361 ⟨nle rfl, nle rfl⟩ (ex_in) npmX12_in rfl (nle rfl) ⟨nle rfl, nle rfl⟩ dX12_isLong_4 ?_
  rintro _ mz ⟨rfl, hz⟩
  subst mz
  refine go_c1 ?_
  refine go_zret rfl (inS_z _ _ _) ⟨Nat.zero_le _, Nat.zero_le _⟩ dX12_isLong_7 ?_
  exact ⟨rfl, rfl⟩
set_option maxRecDepth 100000 in
set_option maxHeartbeats 4000000 in
theorem ex_isThick {m : Me} {v : Int32} : Ev mX12_isThick [.int v] m (fun r m' => r = some (.int (inS v (nI 0) (nI 99))) ∧ m' = m) := by
  refine ⟨plmX12_isThick, nle rfl, ?_⟩
  refine go_iload_n (q := 0) (i := 0) rfl rfl dX12_isThick_0 ?_
  refine go_iconst (v := nI 0) (by decide) dX12_isThick_1 ?_
  refine go_bipush (v := nI 99) (by decide) dX12_isThick_2 ?_
  refine go_callS okmX12_in lmX12_361 ⟨nle rfl, nle rfl⟩ (ex_in) npmX12_in rfl (nle rfl) ⟨nle rfl, nle rfl⟩ dX12_isThick_4 ?_
  rintro _ mz ⟨rfl, hz⟩
  subst mz
  refine go_c1 ?_
  refine go_zret rfl (inS_z _ _ _) ⟨Nat.zero_le _, Nat.zero_le _⟩ dX12_isThick_7 ?_
  exact ⟨rfl, rfl⟩
theorem i10 : (nI 1 = nI 0) = False := by simp only [eq_iff_iff, iff_false]; decide
theorem in_n {v : Int32} {N : Nat} (h : inS v (nI 0) (nI N) = nI 0) : v < 0 ∨ nI N < v := by
  unfold inS at h
  by_cases h0 : v < nI 0
  · rw [nI_0] at h0; exact Or.inl h0
  · rw [if_neg h0] at h
    by_cases h1 : nI N < v
    · exact Or.inr h1
    · rw [if_neg h1] at h; exact absurd h (by decide)
theorem in1_n {v : Int32} {N : Nat} (h : inS v (nI 0) (nI N) = nI 0) : inS v (nI 1) (nI N) = nI 0 := by
  unfold inS
  rcases in_n h with h | h
  · rw [if_pos (Int32.lt_trans h (by decide))]
  · rw [if_pos h]; exact ite_self _
theorem in1_j {j N : Nat} (h : 1 ≤ j) (h2 : j ≤ N) (hN : N < 2 ^ 20) : inS (nI j) (nI 1) (nI N) = nI 1 := by
  unfold inS
  rw [if_neg (by rw [nI_ltI (by omega) (by omega)]; omega), if_neg (by rw [nI_ltI (by omega) (by omega)]; omega)]
theorem sm_c {f g : Nat → Int32} : ∀ n, (∀ k, k < n → f k = g k) → sm f n = sm g n
  | 0, _ => rfl
  | n + 1, h => by rw [sm, sm, sm_c n (fun k hk => h k (by omega)), h n (by omega)]
theorem CR.gwto {P : Pl} {m m' : Me} {pl dr : Nat} {r : Nat → Int32} (h : CR P (gw m 15) r) (c : Ch (LkS pl) m m') (hq : (pl = 226 ∧ dr = 241) ∨ (pl = 241 ∧ dr = 226)) : CR P (gw m' 15) r := by
  rw [gw_keep c (fun x a b => by unfold LkS; omega)]; exact h
theorem CR.sm {P : Pl} {m : Me} {g : Nat} {r : Nat → Int32} (h : CR P (gw m g) r) : sm (gI m (g + 1)) 40 = sm r 40 := sm_c 40 (fun k hk => (gw_f hk).trans (h.f hk))
noncomputable def allS (P : Pl) (r : Nat → Int32) (n w h : Int32) : Int32 := if inS n (nI 0) (nI 72) = nI 0 then -1 else if inS w (nI 0) (nI 2) = nI 0 then -1 else if w = nI 0 then sm (hrN P (-1) P.se n.toNatClampNeg r) 40 else if inS h (nI 0) (nI P.hd - nI 1) = nI 0 then -1 else if w = nI 1 then fgY (hrN P (-1) P.se n.toNatClampNeg r) (fun c => hrN P (-1) P.se n.toNatClampNeg r (40 + c)) h P.wd P.rw else hrN P (-1) P.se n.toNatClampNeg r (80 + h.toNatClampNeg)
noncomputable def lostS (P : Pl) (r : Nat → Int32) (n : Int32) : Int32 := if inS n (nI 0) (nI 72) = nI 0 then -1 else sm r 40 - sm (hrN P (-1) P.se n.toNatClampNeg r) 40
set_option maxRecDepth 100000 in
set_option maxHeartbeats 4000000 in
theorem ex_fogAll {m : Me} (hx : Wf12 m.1 (gR m)) : Ev mX12_fogAll [.ref 274] m (fun o m' => o = some (.int (sm (gI m 316) 40)) ∧ m' = m) := by
  refine ⟨plmX12_fogAll, nle rfl, ?_⟩
  have key : ∀ i, i ≤ 40 → Go mX12_fogAll (fun o m' => o = some (.int (sm (gI m 316) 40)) ∧ m' = m) 4 [some (.ref 274), some (.int (sm (gI m 316) i)), some (.int (nI i))] [] (m) 0 0 := by
    refine loop_up 40 ?_ ?_
    · skip
      refine go_iload_n (q := 2) (i := 2) rfl rfl dX12_fogAll_4 ?_
      refine go_bipush (v := nI 40) (by decide) dX12_fogAll_5 ?_
      refine gn_ge (by omega) (by omega) (tgt := 25) dX12_fogAll_7 (by decide) (fun h7 => ?_) (fun h7 => by exfalso; omega)
      refine go_iload_n (q := 1) (i := 1) rfl rfl dX12_fogAll_25 ?_
      refine go_iret rfl ⟨Nat.zero_le _, Nat.zero_le _⟩ dX12_fogAll_26 ?_
      exact ⟨rfl, rfl⟩
    · intro i hi ih
      refine go_iload_n (q := 2) (i := 2) rfl rfl dX12_fogAll_4 ?_
      refine go_bipush (v := nI 40) (by decide) dX12_fogAll_5 ?_
      refine gn_ge (by omega) (by omega) (tgt := 25) dX12_fogAll_7 (by decide) (fun h7 => by exfalso; omega) (fun h7 => ?_)
      refine go_iload_n (q := 1) (i := 1) rfl rfl dX12_fogAll_10 ?_
      refine go_aload_n (q := 0) (i := 0) rfl rfl dX12_fogAll_11 ?_
      refine go_getR lf12_143 rfl hx.o hx.r59 dX12_fogAll_12 ?_
      refine go_iload_n (q := 2) (i := 2) rfl rfl dX12_fogAll_15 ?_
      refine go_iald (j := i) hx.i59 (by omega) (by first | decide | omega) rfl dX12_fogAll_16 ?_
      refine go_iadd dX12_fogAll_17 ?_
      refine go_istore_n (q := 1) (i := 1) rfl dX12_fogAll_18 (nle rfl) (nle rfl) ?_
      refine gn_inc (i := 2) (a := i) (q := 1) rfl dX12_fogAll_19 (nle rfl) rfl ?_
      refine go_goto (tgt := 4) dX12_fogAll_22 (by decide) ?_
      exact ih
  have k0 := key 0 (Nat.zero_le _)
  refine go_iconst (v := nI 0) (by decide) dX12_fogAll_0 ?_
  refine go_istore_n (q := 1) (i := 1) rfl dX12_fogAll_1 (nle rfl) (nle rfl) ?_
  refine go_iconst (v := nI 0) (by decide) dX12_fogAll_2 ?_
  refine go_istore_n (q := 2) (i := 2) rfl dX12_fogAll_3 (nle rfl) (nle rfl) ?_
  exact k0
set_option maxRecDepth 100000 in
set_option maxHeartbeats 8000000 in
theorem ex_then {m : Me} {P : Pl} {lv : Nat} (hx : Wf12 m.1 (gR m)) (hm : MdC m P lv) (ok : PlOk P) {x y n : Int32} : Ev mX12_then [.ref 274, .int x, .int y, .int n] m (fun o m' => o = some (.int (thenS P (cp 105 (gI m 315) (gI m 316)) x y n)) ∧ Mo m m') := by
  refine ⟨plmX12_then, nle rfl, ?_⟩
  have hw8 := ok.1
  have hr5 := ok.2.1
  have hlv := hm.lv
  rcases ce_c ok x y with ⟨hca, hic⟩ | ⟨a, b, ha, hb, rfl, rfl, hca, hic⟩
  · skip
    refine go_aload_n (q := 0) (i := 0) rfl rfl dX12_then_0 ?_
    refine go_iload_n (q := 1) (i := 1) rfl rfl dX12_then_1 ?_
    refine go_iload_n (q := 2) (i := 2) rfl rfl dX12_then_2 ?_
    refine go_callV okmX12_isCell lmX12_394 ⟨nle rfl, nle rfl⟩ hx.o ⟨by decide, rfl⟩ (ex_isCell hx hm) npmX12_isCell rfl (nle rfl) ⟨nle rfl, nle rfl⟩ dX12_then_3 ?_
    rintro _ mz ⟨rfl, hz⟩
    subst mz
    rw [hic]
    refine go_c1 ?_
    refine gz_eq (by omega) (tgt := 16) dX12_then_6 (by decide) (fun h6 => ?_) (fun h6 => by exfalso; omega)
    refine go_iconst (v := -1) (by decide) dX12_then_16 ?_
    refine go_iret rfl ⟨Nat.zero_le _, Nat.zero_le _⟩ dX12_then_17 ?_
    refine ⟨?_, Mo.rf⟩
    unfold thenS
    rw [hca, if_pos (by decide)]
  · skip
    rcases in_c n (N := 72) (by decide) with hn | ⟨j, hj, rfl, hn⟩
    · skip
      refine go_aload_n (q := 0) (i := 0) rfl rfl dX12_then_0 ?_
      refine go_iload_n (q := 1) (i := 1) rfl rfl dX12_then_1 ?_
      refine go_iload_n (q := 2) (i := 2) rfl rfl dX12_then_2 ?_
      refine go_callV okmX12_isCell lmX12_394 ⟨nle rfl, nle rfl⟩ hx.o ⟨by decide, rfl⟩ (ex_isCell hx hm) npmX12_isCell rfl (nle rfl) ⟨nle rfl, nle rfl⟩ dX12_then_3 ?_
      rintro _ mz ⟨rfl, hz⟩
      subst mz
      rw [hic]
      refine go_c1 ?_
      refine gz_eq (by omega) (tgt := 16) dX12_then_6 (by decide) (fun h6 => by exfalso; omega) (fun h6 => ?_)
      refine go_iload_n (q := 3) (i := 3) rfl rfl dX12_then_9 ?_
      refine go_callS okmX12_isLong lmX12_441 ⟨nle rfl, nle rfl⟩ (ex_isLong) npmX12_isLong rfl (nle rfl) ⟨nle rfl, nle rfl⟩ dX12_then_10 ?_
      rintro _ mz ⟨rfl, hz⟩
      subst mz
      rw [hn]
      refine go_c1 ?_
      refine gz_ne (by omega) (tgt := 18) dX12_then_13 (by decide) (fun h13 => by exfalso; omega) (fun h13 => ?_)
      refine go_iconst (v := -1) (by decide) dX12_then_16 ?_
      refine go_iret rfl ⟨Nat.zero_le _, Nat.zero_le _⟩ dX12_then_17 ?_
      refine ⟨?_, Mo.rf⟩
      unfold thenS
      rw [hca, if_neg (nI_pos (by omega)), if_pos hn]
    · skip
      refine go_aload_n (q := 0) (i := 0) rfl rfl dX12_then_0 ?_
      refine go_iload_n (q := 1) (i := 1) rfl rfl dX12_then_1 ?_
      refine go_iload_n (q := 2) (i := 2) rfl rfl dX12_then_2 ?_
      refine go_callV okmX12_isCell lmX12_394 ⟨nle rfl, nle rfl⟩ hx.o ⟨by decide, rfl⟩ (ex_isCell hx hm) npmX12_isCell rfl (nle rfl) ⟨nle rfl, nle rfl⟩ dX12_then_3 ?_
      rintro _ mz ⟨rfl, hz⟩
      subst mz
      rw [hic]
      refine go_c1 ?_
      refine gz_eq (by omega) (tgt := 16) dX12_then_6 (by decide) (fun h6 => by exfalso; omega) (fun h6 => ?_)
      refine go_iload_n (q := 3) (i := 3) rfl rfl dX12_then_9 ?_
      refine go_callS okmX12_isLong lmX12_441 ⟨nle rfl, nle rfl⟩ (ex_isLong) npmX12_isLong rfl (nle rfl) ⟨nle rfl, nle rfl⟩ dX12_then_10 ?_
      rintro _ mz ⟨rfl, hz⟩
      subst mz
      rw [hn]
      refine go_c1 ?_
      refine gz_ne (by omega) (tgt := 18) dX12_then_13 (by decide) (fun h13 => ?_) (fun h13 => by exfalso; omega)
      refine go_aload_n (q := 0) (i := 0) rfl rfl dX12_then_18 ?_
      refine go_callV okmX12_copies lmX12_413 ⟨nle rfl, nle rfl⟩ hx.o ⟨by decide, rfl⟩ (ex_copies hx hm) npmX12_copies rfl (nle rfl) ⟨nle rfl, nle rfl⟩ dX12_then_19 ?_
      rintro _ m1 ⟨rfl, c1, e1, s1, l1, -⟩
      have hx := c1.wf hx
      have hm := c1.md hm
      refine go_c0 ?_
      refine go_aload_n (q := 0) (i := 0) rfl rfl dX12_then_22 ?_
      refine go_iload_n (q := 3) (i := 3) rfl rfl dX12_then_23 ?_
      refine go_callV okmX12_goes lmX12_438 ⟨nle rfl, nle rfl⟩ hx.o ⟨by decide, rfl⟩ (ex_goes hx hm ok (by omega)) npmX12_goes rfl (nle rfl) ⟨nle rfl, nle rfl⟩ dX12_then_24 ?_
      rintro _ m2 ⟨rfl, cB, e2⟩
      rw [s1, l1, e1] at e2
      have c2 := c1.tr cB.1
      have hx := cB.1.wf hx
      have hm := cB.1.md hm
      refine go_c0 ?_
      refine go_aload_n (q := 0) (i := 0) rfl rfl dX12_then_27 ?_
      refine go_getR lf12_143 rfl hx.o hx.r59 dX12_then_28 ?_
      refine go_bipush (v := nI 8) (by decide) dX12_then_31 ?_
      refine go_iload_n (q := 2) (i := 2) rfl rfl dX12_then_33 ?_
      refine gn_mul dX12_then_34 ?_
      refine go_iload_n (q := 1) (i := 1) rfl rfl dX12_then_35 ?_
      refine gn_add dX12_then_36 ?_
      refine go_iald (j := ((8 * b) + a)) hx.i59 (by omega) (by first | decide | omega) rfl dX12_then_37 ?_
      refine go_iret rfl ⟨Nat.zero_le _, Nat.zero_le _⟩ dX12_then_38 ?_
      refine ⟨?_, c2⟩
      unfold thenS
      rw [e2, hca, if_neg (nI_pos (by omega)), if_neg (by rw [hn]; decide), nI_clamp (by omega), nI_clamp (by omega)]
