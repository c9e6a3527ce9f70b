theorem in_yes {v a b : Int32} (h1 : ¬ v < a) (h2 : ¬ b < v) : inS v a b = nI 1 := by unfold inS; rw [if_neg h1, if_neg h2]
theorem in1_c (v : Int32) {N : Nat} (hN : N < 2 ^ 20) : inS v (nI 1) (nI N) = nI 0 ∨ ∃ j, 1 ≤ j ∧ j ≤ N ∧ v = nI j ∧ inS v (nI 1) (nI N) = nI 1 := by
  by_cases h1 : v < nI 1
  · left; unfold inS; rw [if_pos h1]
  by_cases h2 : nI N < v
  · left; unfold inS; rw [if_neg h1, if_pos h2]
  · right
    obtain ⟨j, hj, rfl⟩ := nI_of (x := v) (fun z => h1 (Int32.lt_trans z (by decide)))
    rw [nI_ltI hj (by decide)] at h1
    rw [nI_ltI (by omega) hj] at h2
    exact ⟨j, by omega, by omega, rfl, in_yes (by rw [nI_ltI hj (by decide)]; omega) (by rw [nI_ltI (by omega) hj]; omega)⟩
def drR (r : Nat → Int32) (h c : Nat) (n : Int32) : Nat → Int32 := upd (upd (upd r c (r c + n)) (80 + h) (r (80 + h) - n)) (84 + h) (r (84 + h) + n)
def drS (P : Pl) (r : Nat → Int32) (h x y n : Int32) : Int32 × Option (Nat → Int32) := if inS h (nI 0) (nI P.hd - nI 1) = nI 0 then (-1, none) else if ceS P x y < 0 then (-1, none) else if inS n (nI 1) (nI 99) = nI 0 then (-1, none) else if r (40 + (ceS P x y).toNatClampNeg) = h then (if r (80 + h.toNatClampNeg) < n then (-2, none) else if r (ceS P x y).toNatClampNeg + n ≤ nI 99 then (r (ceS P x y).toNatClampNeg + n, some (drR r h.toNatClampNeg (ceS P x y).toNatClampNeg n)) else (-2, none)) else (-2, none)
theorem DnC.hx {pl dr : Nat} {m m' : Me} (c : Ch (fun y => y = 27 ∨ (29 ≤ y ∧ y < 209)) m m') (h : CX m.1 (gR m) pl dr) : CX m'.1 (gR m') pl dr := CX.to c h
/-- what is kept of the past, when no more is written there -/
theorem KpC.of {m m1 m2 : Me} {x s : Nat} (hx30 : x < 30) (hs30 : s ≤ 30) (h1 : gI m 27 1 = nI x) (h2 : gI m 27 2 = nI s) (a : gI m1 27 1 = nI ((x + 1) % 30)) (b : gI m1 27 2 = nI (if s < 30 then s + 1 else 30)) (c : gw m1 (29 + 6 * x) = gw m 15) (d : ∀ j, j < 30 → j ≠ x → gw m1 (29 + 6 * j) = gw m (29 + 6 * j)) (e : ∀ y, 27 ≤ y → y < 209 → gI m2 y = gI m1 y) : KpC m m2 := by
  intro x' s' q1 q2 q3 q4
  have e1 : x' = x := (nI_eq (by omega) (by omega)).mp (q3.symm.trans h1)
  have e2 : s' = s := (nI_eq (by omega) (by omega)).mp (q4.symm.trans h2)
  subst e1; subst e2
  have g : ∀ z, z < 30 → gw m2 (29 + 6 * z) = gw m1 (29 + 6 * z) := fun z hz => by
    unfold gw
    rw [e _ (by omega) (by omega), e _ (by omega) (by omega), e _ (by omega) (by omega), e _ (by omega) (by omega), e _ (by omega) (by omega), e _ (by omega) (by omega)]
  refine ⟨by rw [e 27 (by omega) (by omega)]; exact a, by rw [e 27 (by omega) (by omega)]; exact b, by rw [g _ q1]; exact c, fun j hj hne => by rw [g j hj]; exact d j hj hne⟩
/-- the past's numbers are in order -/
def PsO (m : Me) : Prop := ∃ x s, x < 30 ∧ s ≤ 30 ∧ gI m 27 1 = nI x ∧ gI m 27 2 = nI s
set_option maxRecDepth 100000 in
set_option maxHeartbeats 8000000 in
theorem ev_draw {m : Me} {pl dr M : Nat} {P : Pl} {r : Nat → Int32} (hX : CX m.1 (gR m) pl dr) (hP : PlC m pl P) (ok : PlOk P) (hM : M < 2 ^ 18) (hr : RoOk P M r) (hc : CR P (gw m 15) r) (hps : PsO m) {h x y n : Int32} : Ev mX11_draw [.ref 0, .int h, .int x, .int y, .int n] m (fun o m' => o = some (.int (drS P r h x y n).1) ∧ DnC P pl m m' (drS P r h x y n).2) := by
  refine ⟨plmX11_draw, nle rfl, ?_⟩
  have hw8 := ok.1
  have hr5 := ok.2.1
  have hpd := hX.pd
  have hh4 := ok.2.2.1
  have hu6 := ok.2.2.2.1
  obtain ⟨px, ps, hx30, hs30, hp1, hp2⟩ := hps
  rcases hd_c (n := P.hd) (by omega) h with hh | ⟨i, hi, rfl, hh⟩
  · skip
    refine go_aload_n (q := 0) (i := 0) rfl rfl dX11_draw_0 ?_
    refine go_getR lf11_86 rfl hX.o hX.rp dX11_draw_1 ?_
    refine go_iload_n (q := 2) (i := 2) rfl rfl dX11_draw_4 ?_
    refine go_iload_n (q := 3) (i := 3) rfl rfl dX11_draw_5 ?_
    refine go_callV okmX7_cellAt lmX11_126 ⟨nle rfl, nle rfl⟩ hX.wp.o ⟨by decide, rfl⟩ (ev_cellAt hX.wp) npmX7_cellAt rfl (nle rfl) ⟨nle rfl, nle rfl⟩ dX11_draw_6 ?_
    rintro _ mz ⟨rfl, hz⟩
    subst mz
    refine go_c1 ?_
    refine go_istore (i := 5) dX11_draw_9 (nle rfl) (nle rfl) ?_
    refine go_aload_n (q := 0) (i := 0) rfl rfl dX11_draw_11 ?_
    refine go_getR lf11_86 rfl hX.o hX.rp dX11_draw_12 ?_
    refine go_iload_n (q := 1) (i := 1) rfl rfl dX11_draw_15 ?_
    refine go_callV okmX7_hasHolding lmX11_148 ⟨nle rfl, nle rfl⟩ hX.wp.o ⟨by decide, rfl⟩ (ev_hasHolding hX.wp) npmX7_hasHolding rfl (nle rfl) ⟨nle rfl, nle rfl⟩ dX11_draw_16 ?_
    rintro _ mz ⟨rfl, hz⟩
    subst mz
    rw [hP.hd, has_in ok.2.2.1 (by decide), hh]
    refine go_c1 ?_
    refine gz_eq (by omega) (tgt := 47) dX11_draw_19 (by decide) (fun h19 => ?_) (fun h19 => by exfalso; omega)
    refine go_iconst (v := -1) (by decide) dX11_draw_47 ?_
    refine go_iret rfl ⟨Nat.zero_le _, Nat.zero_le _⟩ dX11_draw_48 ?_
    have e : drS P r h x y n = (-1, none) := by simp only [drS, hh, reduceIte]
    rw [e]
    exact ⟨rfl, ClK.rf⟩
  · skip
    rcases ce_c ok x y with ⟨hca, hic⟩ | ⟨a, b, ha, hb, rfl, rfl, hca, hic⟩
    · skip
      refine go_aload_n (q := 0) (i := 0) rfl rfl dX11_draw_0 ?_
      refine go_getR lf11_86 rfl hX.o hX.rp dX11_draw_1 ?_
      refine go_iload_n (q := 2) (i := 2) rfl rfl dX11_draw_4 ?_
      refine go_iload_n (q := 3) (i := 3) rfl rfl dX11_draw_5 ?_
      refine go_callV okmX7_cellAt lmX11_126 ⟨nle rfl, nle rfl⟩ hX.wp.o ⟨by decide, rfl⟩ (ev_cellAt hX.wp) npmX7_cellAt rfl (nle rfl) ⟨nle rfl, nle rfl⟩ dX11_draw_6 ?_
      rintro _ mz ⟨rfl, hz⟩
      subst mz
      rw [hP.wd, hP.rw, show caS (nI P.wd) (nI P.rw) _ _ = _ from hca]
      refine go_c1 ?_
      refine go_istore (i := 5) dX11_draw_9 (nle rfl) (nle rfl) ?_
      refine go_aload_n (q := 0) (i := 0) rfl rfl dX11_draw_11 ?_
      refine go_getR lf11_86 rfl hX.o hX.rp dX11_draw_12 ?_
      refine go_iload_n (q := 1) (i := 1) rfl rfl dX11_draw_15 ?_
      refine go_callV okmX7_hasHolding lmX11_148 ⟨nle rfl, nle rfl⟩ hX.wp.o ⟨by decide, rfl⟩ (ev_hasHolding hX.wp) npmX7_hasHolding rfl (nle rfl) ⟨nle rfl, nle rfl⟩ dX11_draw_16 ?_
      rintro _ mz ⟨rfl, hz⟩
      subst mz
      rw [hP.hd, has_in ok.2.2.1 (by decide), hh]
      refine go_c1 ?_
      refine gz_eq (by omega) (tgt := 47) dX11_draw_19 (by decide) (fun h19 => by exfalso; omega) (fun h19 => ?_)
      refine go_iload (i := 5) rfl dX11_draw_22 ?_
      refine go_if_lt (tgt := 47) dX11_draw_24 (by decide) (fun h24 => ?_) (fun h24 => by exfalso; exact h24 (by decide))
      refine go_iconst (v := -1) (by decide) dX11_draw_47 ?_
      refine go_iret rfl ⟨Nat.zero_le _, Nat.zero_le _⟩ dX11_draw_48 ?_
      have e : drS P r (nI i) x y n = (-1, none) := by simp only [drS, hh, hca, cneg, i10, reduceIte]
      rw [e]
      exact ⟨rfl, ClK.rf⟩
    · skip
      rcases in1_c n (N := 99) (by decide) with hz | ⟨z, hz1, hz9, rfl, hz⟩
      · skip
        refine go_aload_n (q := 0) (i := 0) rfl rfl dX11_draw_0 ?_
        refine go_getR lf11_86 rfl hX.o hX.rp dX11_draw_1 ?_
        refine go_iload_n (q := 2) (i := 2) rfl rfl dX11_draw_4 ?_
        refine go_iload_n (q := 3) (i := 3) rfl rfl dX11_draw_5 ?_
        refine go_callV okmX7_cellAt lmX11_126 ⟨nle rfl, nle rfl⟩ hX.wp.o ⟨by decide, rfl⟩ (ev_cellAt hX.wp) npmX7_cellAt rfl (nle rfl) ⟨nle rfl, nle rfl⟩ dX11_draw_6 ?_
        rintro _ mz ⟨rfl, hz⟩
        subst mz
        rw [hP.wd, hP.rw, show caS (nI P.wd) (nI P.rw) _ _ = _ from hca]
        refine go_c1 ?_
        refine go_istore (i := 5) dX11_draw_9 (nle rfl) (nle rfl) ?_
        refine go_aload_n (q := 0) (i := 0) rfl rfl dX11_draw_11 ?_
        refine go_getR lf11_86 rfl hX.o hX.rp dX11_draw_12 ?_
        refine go_iload_n (q := 1) (i := 1) rfl rfl dX11_draw_15 ?_
        refine go_callV okmX7_hasHolding lmX11_148 ⟨nle rfl, nle rfl⟩ hX.wp.o ⟨by decide, rfl⟩ (ev_hasHolding hX.wp) npmX7_hasHolding rfl (nle rfl) ⟨nle rfl, nle rfl⟩ dX11_draw_16 ?_
        rintro _ mz ⟨rfl, hz⟩
        subst mz
        rw [hP.hd, has_in ok.2.2.1 (by decide), hh]
        refine go_c1 ?_
        refine gz_eq (by omega) (tgt := 47) dX11_draw_19 (by decide) (fun h19 => by exfalso; omega) (fun h19 => ?_)
        refine go_iload (i := 5) rfl dX11_draw_22 ?_
        refine gz_lt (by omega) (tgt := 47) dX11_draw_24 (by decide) (fun h24 => by exfalso; omega) (fun h24 => ?_)
        refine go_iload (i := 5) rfl dX11_draw_27 ?_
        refine go_bipush (v := nI 40) (by decide) dX11_draw_29 ?_
        refine gn_ge (by omega) (by omega) (tgt := 47) dX11_draw_31 (by decide) (fun h31 => by exfalso; omega) (fun h31 => ?_)
        refine go_iload (i := 4) rfl dX11_draw_34 ?_
        refine go_iconst (v := nI 1) (by decide) dX11_draw_36 ?_
        refine go_icmp_lt (tgt := 47) dX11_draw_37 (by decide) (fun h37 => ?_) (fun h37 => ?_)
        · skip
          refine go_iconst (v := -1) (by decide) dX11_draw_47 ?_
          refine go_iret rfl ⟨Nat.zero_le _, Nat.zero_le _⟩ dX11_draw_48 ?_
          have e : drS P r (nI i) (nI a) (nI b) n = (-1, none) := by simp only [drS, hh, hca, hz, i10, reduceIte, cpos (show 8 * b + a < 2 ^ 31 by omega)]
          rw [e]
          exact ⟨rfl, ClK.rf⟩
        · skip
          refine go_iload (i := 4) rfl dX11_draw_40 ?_
          refine go_bipush (v := nI 99) (by decide) dX11_draw_42 ?_
          refine go_icmp_le (tgt := 49) dX11_draw_44 (by decide) (fun h44 => by exfalso; exact absurd (hz.symm.trans (in_yes h37 (Int32.not_lt.mpr h44))) (by decide)) (fun h44 => ?_)
          refine go_iconst (v := -1) (by decide) dX11_draw_47 ?_
          refine go_iret rfl ⟨Nat.zero_le _, Nat.zero_le _⟩ dX11_draw_48 ?_
          have e : drS P r (nI i) (nI a) (nI b) n = (-1, none) := by simp only [drS, hh, hca, hz, i10, reduceIte, cpos (show 8 * b + a < 2 ^ 31 by omega)]
          rw [e]
          exact ⟨rfl, ClK.rf⟩
      · skip
        refine go_aload_n (q := 0) (i := 0) rfl rfl dX11_draw_0 ?_
        refine go_getR lf11_86 rfl hX.o hX.rp dX11_draw_1 ?_
        refine go_iload_n (q := 2) (i := 2) rfl rfl dX11_draw_4 ?_
        refine go_iload_n (q := 3) (i := 3) rfl rfl dX11_draw_5 ?_
        refine go_callV okmX7_cellAt lmX11_126 ⟨nle rfl, nle rfl⟩ hX.wp.o ⟨by decide, rfl⟩ (ev_cellAt hX.wp) npmX7_cellAt rfl (nle rfl) ⟨nle rfl, nle rfl⟩ dX11_draw_6 ?_
        rintro _ mz ⟨rfl, hz⟩
        subst mz
        rw [hP.wd, hP.rw, show caS (nI P.wd) (nI P.rw) _ _ = _ from hca]
        refine go_c1 ?_
        refine go_istore (i := 5) dX11_draw_9 (nle rfl) (nle rfl) ?_
        refine go_aload_n (q := 0) (i := 0) rfl rfl dX11_draw_11 ?_
        refine go_getR lf11_86 rfl hX.o hX.rp dX11_draw_12 ?_
        refine go_iload_n (q := 1) (i := 1) rfl rfl dX11_draw_15 ?_
        refine go_callV okmX7_hasHolding lmX11_148 ⟨nle rfl, nle rfl⟩ hX.wp.o ⟨by decide, rfl⟩ (ev_hasHolding hX.wp) npmX7_hasHolding rfl (nle rfl) ⟨nle rfl, nle rfl⟩ dX11_draw_16 ?_
        rintro _ mz ⟨rfl, hz⟩
        subst mz
        rw [hP.hd, has_in ok.2.2.1 (by decide), hh]
        refine go_c1 ?_
        refine gz_eq (by omega) (tgt := 47) dX11_draw_19 (by decide) (fun h19 => by exfalso; omega) (fun h19 => ?_)
        refine go_iload (i := 5) rfl dX11_draw_22 ?_
        refine gz_lt (by omega) (tgt := 47) dX11_draw_24 (by decide) (fun h24 => by exfalso; omega) (fun h24 => ?_)
        refine go_iload (i := 5) rfl dX11_draw_27 ?_
        refine go_bipush (v := nI 40) (by decide) dX11_draw_29 ?_
        refine gn_ge (by omega) (by omega) (tgt := 47) dX11_draw_31 (by decide) (fun h31 => by exfalso; omega) (fun h31 => ?_)
        refine go_iload (i := 4) rfl dX11_draw_34 ?_
        refine go_iconst (v := nI 1) (by decide) dX11_draw_36 ?_
        refine gn_lt (by omega) (by omega) (tgt := 47) dX11_draw_37 (by decide) (fun h37 => by exfalso; omega) (fun h37 => ?_)
        refine go_iload (i := 4) rfl dX11_draw_40 ?_
        refine go_bipush (v := nI 99) (by decide) dX11_draw_42 ?_
        refine gn_le (by omega) (by omega) (tgt := 49) dX11_draw_44 (by decide) (fun h44 => ?_) (fun h44 => by exfalso; omega)
        refine go_aload_n (q := 0) (i := 0) rfl rfl dX11_draw_49 ?_
        refine go_getR lf11_47 rfl hX.o hX.r5 dX11_draw_50 ?_
        refine go_getR lf11_134 rfl hX.w5.o hX.w5.r2 dX11_draw_53 ?_
        refine go_iload (i := 5) rfl dX11_draw_56 ?_
        refine go_iald (j := (8 * b + a)) hX.w5.i2 (by omega) (by first | decide | omega) rfl dX11_draw_58 ?_
        rw [show gI m (15 + 2) (8 * b + a) = r (40 + (8 * b + a)) from (gw_w (by omega)).trans (hc.w (by omega) (ld_ab ok ha hb))]
        refine go_iload_n (q := 1) (i := 1) rfl rfl dX11_draw_59 ?_
        refine go_icmp_ne (tgt := 95) dX11_draw_60 (by decide) (fun h60 => ?_) (fun h60 => ?_)
        · skip
          refine go_bipush (v := -2) (by decide) dX11_draw_95 ?_
          refine go_iret rfl ⟨Nat.zero_le _, Nat.zero_le _⟩ dX11_draw_97 ?_
          have e : drS P r (nI i) (nI a) (nI b) (nI z) = (-2, none) := by
            simp only [drS, hh, hca, hz, i10, reduceIte, cpos (show 8 * b + a < 2 ^ 31 by omega), nI_clamp (show 8 * b + a < 2 ^ 31 by omega), nI_clamp (show i < 2 ^ 31 by omega)]
            rw [if_neg h60]
          rw [e]
          exact ⟨rfl, ClK.rf⟩
        · skip
          refine go_aload_n (q := 0) (i := 0) rfl rfl dX11_draw_63 ?_
          refine go_getR lf11_47 rfl hX.o hX.r5 dX11_draw_64 ?_
          refine go_getR lf11_156 rfl hX.w5.o hX.w5.r3 dX11_draw_67 ?_
          refine go_iload_n (q := 1) (i := 1) rfl rfl dX11_draw_70 ?_
          refine go_iald (j := i) hX.w5.i3 (by omega) (by first | decide | omega) rfl dX11_draw_71 ?_
          rw [show gI m (15 + 3) i = r (80 + i) from (gw_s (by omega)).trans (hc.s (by omega) (by omega))]
          refine go_iload (i := 4) rfl dX11_draw_72 ?_
          refine go_icmp_lt (tgt := 95) dX11_draw_74 (by decide) (fun h74 => ?_) (fun h74 => ?_)
          · skip
            refine go_bipush (v := -2) (by decide) dX11_draw_95 ?_
            refine go_iret rfl ⟨Nat.zero_le _, Nat.zero_le _⟩ dX11_draw_97 ?_
            have e : drS P r (nI i) (nI a) (nI b) (nI z) = (-2, none) := by
              simp only [drS, hh, hca, hz, i10, reduceIte, cpos (show 8 * b + a < 2 ^ 31 by omega), nI_clamp (show 8 * b + a < 2 ^ 31 by omega), nI_clamp (show i < 2 ^ 31 by omega)]
              rw [if_pos h60, if_pos h74]
            rw [e]
            exact ⟨rfl, ClK.rf⟩
          · skip
            refine go_aload_n (q := 0) (i := 0) rfl rfl dX11_draw_77 ?_
            refine go_getR lf11_47 rfl hX.o hX.r5 dX11_draw_78 ?_
            refine go_getR lf11_130 rfl hX.w5.o hX.w5.r1 dX11_draw_81 ?_
            refine go_iload (i := 5) rfl dX11_draw_84 ?_
            refine go_iald (j := (8 * b + a)) hX.w5.i1 (by omega) (by first | decide | omega) rfl dX11_draw_86 ?_
            rw [show gI m (15 + 1) (8 * b + a) = r (8 * b + a) from (gw_f (by omega)).trans (hc.f (by omega))]
            refine go_iload (i := 4) rfl dX11_draw_87 ?_
            refine go_iadd dX11_draw_89 ?_
            refine go_bipush (v := nI 99) (by decide) dX11_draw_90 ?_
            refine go_icmp_le (tgt := 98) dX11_draw_92 (by decide) (fun h92 => ?_) (fun h92 => ?_)
            · skip
              refine go_aload_n (q := 0) (i := 0) rfl rfl dX11_draw_98 ?_
              refine go_getR lf11_57 rfl hX.o hX.r7 dX11_draw_99 ?_
              refine go_aload_n (q := 0) (i := 0) rfl rfl dX11_draw_102 ?_
              refine go_getR lf11_47 rfl hX.o hX.r5 dX11_draw_103 ?_
              refine go_callV okmX6_keep lmX11_194 ⟨nle rfl, nle rfl⟩ hX.w7.o ⟨by decide, rfl⟩ (ev_keep hX.w7 hX.w5 hx30 hs30 hp1 hp2) npmX6_keep rfl (nle rfl) ⟨nle rfl, nle rfl⟩ dX11_draw_106 ?_
              rintro _ m1 ⟨rfl, cK, k1, k2, k3, k4⟩
              have hX := CX.to cK hX
              have hcK : CR P (gw m1 15) r := by rw [gw_keep cK (fun y a b => by omega)]; exact hc
              refine go_c0 ?_
              refine go_aload_n (q := 0) (i := 0) rfl rfl dX11_draw_109 ?_
              refine go_getR lf11_47 rfl hX.o hX.r5 dX11_draw_110 ?_
              refine go_getR lf11_156 rfl hX.w5.o hX.w5.r3 dX11_draw_113 ?_
              refine go_iload_n (q := 1) (i := 1) rfl rfl dX11_draw_116 ?_
              refine go_dup2 rfl rfl dX11_draw_117 ?_
              refine go_iald (j := i) hX.w5.i3 (by omega) (by first | decide | omega) rfl dX11_draw_118 ?_
              rw [show gI m1 (15 + 3) i = r (80 + i) from (gw_s (by omega)).trans (hcK.s (by omega) (by omega))]
              refine go_iload (i := 4) rfl dX11_draw_119 ?_
              refine go_isub dX11_draw_121 ?_
              refine go_iast (j := i) hX.w5.i3 (by omega) (by first | decide | omega) rfl dX11_draw_122 ?_
              generalize hmA : sI m1 (15 + 3) _ = mA
              have cA : Ch (fun y => 15 ≤ y ∧ y ≤ 20) m1 mA := by rw [← hmA]; exact Ch.I (by omega)
              have hcA : CR P (gw mA 15) (upd r (80 + i) (r (80 + i) - nI z)) := by
                rw [← hmA, gw_upds (by omega)]
                exact hcK.up (by omega)
              have hX := CX.to cA hX
              refine go_aload_n (q := 0) (i := 0) rfl rfl dX11_draw_123 ?_
              refine go_getR lf11_47 rfl hX.o hX.r5 dX11_draw_124 ?_
              refine go_getR lf11_169 rfl hX.w5.o hX.w5.r4 dX11_draw_127 ?_
              refine go_iload_n (q := 1) (i := 1) rfl rfl dX11_draw_130 ?_
              refine go_dup2 rfl rfl dX11_draw_131 ?_
              refine go_iald (j := i) hX.w5.i4 (by omega) (by first | decide | omega) rfl dX11_draw_132 ?_
              rw [show gI mA (15 + 4) i = r (84 + i) from (gw_d (by omega)).trans ((hcA.s (by omega) (by omega)).trans (upd_ne (by omega)))]
              refine go_iload (i := 4) rfl dX11_draw_133 ?_
              refine go_iadd dX11_draw_135 ?_
              refine go_iast (j := i) hX.w5.i4 (by omega) (by first | decide | omega) rfl dX11_draw_136 ?_
              generalize hmB : sI mA (15 + 4) _ = mB
              have cB : Ch (fun y => 15 ≤ y ∧ y ≤ 20) mA mB := by rw [← hmB]; exact Ch.I (by omega)
              have hcB : CR P (gw mB 15) (upd (upd r (80 + i) (r (80 + i) - nI z)) (84 + i) (r (84 + i) + nI z)) := by
                rw [← hmB, gw_updd (by omega)]
                exact hcA.up (by omega)
              have hX := CX.to cB hX
              refine go_aload_n (q := 0) (i := 0) rfl rfl dX11_draw_137 ?_
              refine go_getR lf11_47 rfl hX.o hX.r5 dX11_draw_138 ?_
              refine go_getR lf11_130 rfl hX.w5.o hX.w5.r1 dX11_draw_141 ?_
              refine go_iload (i := 5) rfl dX11_draw_144 ?_
              refine go_dup2 rfl rfl dX11_draw_146 ?_
              refine go_iald (j := (8 * b + a)) hX.w5.i1 (by omega) (by first | decide | omega) rfl dX11_draw_147 ?_
              rw [show gI mB (15 + 1) (8 * b + a) = r (8 * b + a) from (gw_f (by omega)).trans ((hcB.f (by omega)).trans ((upd_ne (by omega)).trans (upd_ne (by omega))))]
              refine go_iload (i := 4) rfl dX11_draw_148 ?_
              refine go_iadd dX11_draw_150 ?_
              refine go_iast (j := (8 * b + a)) hX.w5.i1 (by omega) (by first | decide | omega) rfl dX11_draw_151 ?_
              generalize hmC : sI mB (15 + 1) _ = mC
              have cC : Ch (fun y => 15 ≤ y ∧ y ≤ 20) mB mC := by rw [← hmC]; exact Ch.I (by omega)
              have hcC : CR P (gw mC 15) (upd (upd (upd r (80 + i) (r (80 + i) - nI z)) (84 + i) (r (84 + i) + nI z)) (8 * b + a) (r (8 * b + a) + nI z)) := by
                rw [← hmC, gw_updf (by omega)]
                exact hcB.upf (by omega)
              have hX := CX.to cC hX
              refine go_aload_n (q := 0) (i := 0) rfl rfl dX11_draw_152 ?_
              refine go_getR lf11_47 rfl hX.o hX.r5 dX11_draw_153 ?_
              refine go_getR lf11_130 rfl hX.w5.o hX.w5.r1 dX11_draw_156 ?_
              refine go_iload (i := 5) rfl dX11_draw_159 ?_
              refine go_iald (j := (8 * b + a)) hX.w5.i1 (by omega) (by first | decide | omega) rfl dX11_draw_161 ?_
              rw [show gI mC (15 + 1) (8 * b + a) = r (8 * b + a) + nI z from (gw_f (by omega)).trans ((hcC.f (by omega)).trans upd_eq)]
              refine go_iret rfl ⟨Nat.zero_le _, Nat.zero_le _⟩ dX11_draw_162 ?_
              have e : drS P r (nI i) (nI a) (nI b) (nI z) = (r (8 * b + a) + nI z, some (drR r i (8 * b + a) (nI z))) := by
                simp only [drS, hh, hca, hz, i10, reduceIte, cpos (show 8 * b + a < 2 ^ 31 by omega), nI_clamp (show 8 * b + a < 2 ^ 31 by omega), nI_clamp (show i < 2 ^ 31 by omega)]
                rw [if_pos h60, if_neg h74, if_pos h92]
              rw [e]
              have cABC := (cA.tr cB).tr cC
              refine ⟨rfl, (cK.mn (fun y hy => by unfold DnA LkS; omega)).tr (cABC.mn (fun y hy => by unfold DnA LkS; omega)), ?_, KpC.of hx30 hs30 hp1 hp2 k1 k2 k3 k4 (fun y a b => cABC.at (by omega))⟩
              unfold drR
              rw [upd_cm (show 8 * b + a ≠ 80 + i by omega), upd_cm (show 8 * b + a ≠ 84 + i by omega)]
              exact hcC
            · skip
              refine go_bipush (v := -2) (by decide) dX11_draw_95 ?_
              refine go_iret rfl ⟨Nat.zero_le _, Nat.zero_le _⟩ dX11_draw_97 ?_
              have e : drS P r (nI i) (nI a) (nI b) (nI z) = (-2, none) := by
                simp only [drS, hh, hca, hz, i10, reduceIte, cpos (show 8 * b + a < 2 ^ 31 by omega), nI_clamp (show 8 * b + a < 2 ^ 31 by omega), nI_clamp (show i < 2 ^ 31 by omega)]
                rw [if_pos h60, if_neg h74, if_neg h92]
              rw [e]
              exact ⟨rfl, ClK.rf⟩
theorem KpM.of {m mk m' : Me} (h : KpM mk m') (a : gI mk 274 63 = gI m 274 63) (b : gI mk 318 = gI m 318) (c : gI mk 315 = gI m 315) : KpM m m' := by
  intro u hu h1
  obtain ⟨k1, k2, k3⟩ := h u hu (a.trans h1)
  refine ⟨k1, fun k hk => (k2 k hk).trans (by rw [c]), fun j k hj hk => (k3 j k hj hk).trans ?_⟩
  unfold hrw
  rw [b]
theorem DnM.of {m mk m' : Me} {r : Nat → Int32} (c : Mo m mk) (a : Ch (fun x => x = 274 ∨ x = 315 ∨ x = 318) mk m') (b : ∀ k, k ≠ 63 → gI m' 274 k = gI mk 274 k) (d : ∀ k, k < 105 → gI m' 315 k = gI mk 316 k) (k : KpM mk m') (e : ∀ k, k < 105 → gI mk 316 k = r k) : DnM m m' (some r) :=
  ⟨(c.1.mn (fun x z => by unfold DmA; omega)).tr (a.mn (fun x z => by unfold DmA; omega)), fun q h1 h2 h3 h4 => (b q h4).trans (c.2 q h1 h2 h3), fun q hq => (d q hq).trans (e q hq), k.of (c.2 63 (by decide) (by decide) (by decide)) (c.1.at (by omega)) (c.1.at (by omega))⟩
def PsM (m : Me) : Prop := ∃ u, u ≤ 30 ∧ gI m 274 63 = nI u
theorem now_R {m : Me} {k : Nat} (h : k < 105) : gI m 315 k = cp 105 (gI m 315) (gI m 316) k := (cp_in h).symm
set_option maxRecDepth 100000 in
set_option maxHeartbeats 8000000 in
theorem ex_draw {m : Me} {P : Pl} {lv : Nat} (hx : Wf12 m.1 (gR m)) (hm : MdC m P lv) (ok : PlOk P) (hps : PsM m) {h x y n : Int32} : Ev mX12_draw [.ref 274, .int h, .int x, .int y, .int n] m (fun o m' => o = some (.int (drS P (cp 105 (gI m 315) (gI m 316)) h x y n).1) ∧ DnM m m' (drS P (cp 105 (gI m 315) (gI m 316)) h x y n).2) := by
  refine ⟨plmX12_draw, nle rfl, ?_⟩
  have hw8 := ok.1
  have hr5 := ok.2.1
  have hlv := hm.lv
  have hh4 := ok.2.2.1
  have hu6 := ok.2.2.2.1
  obtain ⟨u, hu30, hu1⟩ := hps
  have hx0 := hx
  rcases hd_c (n := P.hd) (by omega) h with hh | ⟨i, hi, rfl, hh⟩
  · skip
    refine go_aload_n (q := 0) (i := 0) rfl rfl dX12_draw_0 ?_
    refine go_iload_n (q := 1) (i := 1) rfl rfl dX12_draw_1 ?_
    refine go_callV okmX12_isHolding lmX12_416 ⟨nle rfl, nle rfl⟩ hx.o ⟨by decide, rfl⟩ (ex_isHolding hx hm) npmX12_isHolding rfl (nle rfl) ⟨nle rfl, nle rfl⟩ dX12_draw_2 ?_
    rintro _ mz ⟨rfl, hz⟩
    subst mz
    rw [hh]
    refine go_c1 ?_
    refine gz_eq (by omega) (tgt := 28) dX12_draw_5 (by decide) (fun h5 => ?_) (fun h5 => by exfalso; omega)
    refine go_iconst (v := -1) (by decide) dX12_draw_28 ?_
    refine go_iret rfl ⟨Nat.zero_le _, Nat.zero_le _⟩ dX12_draw_29 ?_
    have e : drS P (cp 105 (gI m 315) (gI m 316)) h x y n = (-1, none) := by simp only [drS, hh, reduceIte]
    rw [e]
    exact ⟨rfl, RfK.rf⟩
  · skip
    rcases ce_c ok x y with ⟨hca, hic⟩ | ⟨a, b, ha, hb, rfl, rfl, hca, hic⟩
    · skip
      refine go_aload_n (q := 0) (i := 0) rfl rfl dX12_draw_0 ?_
      refine go_iload_n (q := 1) (i := 1) rfl rfl dX12_draw_1 ?_
      refine go_callV okmX12_isHolding lmX12_416 ⟨nle rfl, nle rfl⟩ hx.o ⟨by decide, rfl⟩ (ex_isHolding hx hm) npmX12_isHolding rfl (nle rfl) ⟨nle rfl, nle rfl⟩ dX12_draw_2 ?_
      rintro _ mz ⟨rfl, hz⟩
      subst mz
      rw [hh]
      refine go_c1 ?_
      refine gz_eq (by omega) (tgt := 28) dX12_draw_5 (by decide) (fun h5 => by exfalso; omega) (fun h5 => ?_)
      refine go_aload_n (q := 0) (i := 0) rfl rfl dX12_draw_8 ?_
      refine go_iload_n (q := 2) (i := 2) rfl rfl dX12_draw_9 ?_
      refine go_iload_n (q := 3) (i := 3) rfl rfl dX12_draw_10 ?_
      refine go_callV okmX12_isCell lmX12_394 ⟨nle rfl, nle rfl⟩ hx.o ⟨by decide, rfl⟩ (ex_isCell hx hm) npmX12_isCell rfl (nle rfl) ⟨nle rfl, nle rfl⟩ dX12_draw_11 ?_
      rintro _ mz ⟨rfl, hz⟩
      subst mz
      rw [hic]
      refine go_c1 ?_
      refine gz_eq (by omega) (tgt := 28) dX12_draw_14 (by decide) (fun h14 => ?_) (fun h14 => by exfalso; omega)
      refine go_iconst (v := -1) (by decide) dX12_draw_28 ?_
      refine go_iret rfl ⟨Nat.zero_le _, Nat.zero_le _⟩ dX12_draw_29 ?_
      have e : drS P (cp 105 (gI m 315) (gI m 316)) (nI i) x y n = (-1, none) := by simp only [drS, hh, hca, cneg, i10, reduceIte]
      rw [e]
      exact ⟨rfl, RfK.rf⟩
    · skip
      rcases in1_c n (N := 99) (by decide) with hz | ⟨z, hz1, hz9, rfl, hz⟩
      · skip
        refine go_aload_n (q := 0) (i := 0) rfl rfl dX12_draw_0 ?_
        refine go_iload_n (q := 1) (i := 1) rfl rfl dX12_draw_1 ?_
        refine go_callV okmX12_isHolding lmX12_416 ⟨nle rfl, nle rfl⟩ hx.o ⟨by decide, rfl⟩ (ex_isHolding hx hm) npmX12_isHolding rfl (nle rfl) ⟨nle rfl, nle rfl⟩ dX12_draw_2 ?_
        rintro _ mz ⟨rfl, hz⟩
        subst mz
        rw [hh]
        refine go_c1 ?_
        refine gz_eq (by omega) (tgt := 28) dX12_draw_5 (by decide) (fun h5 => by exfalso; omega) (fun h5 => ?_)
        refine go_aload_n (q := 0) (i := 0) rfl rfl dX12_draw_8 ?_
        refine go_iload_n (q := 2) (i := 2) rfl rfl dX12_draw_9 ?_
        refine go_iload_n (q := 3) (i := 3) rfl rfl dX12_draw_10 ?_
        refine go_callV okmX12_isCell lmX12_394 ⟨nle rfl, nle rfl⟩ hx.o ⟨by decide, rfl⟩ (ex_isCell hx hm) npmX12_isCell rfl (nle rfl) ⟨nle rfl, nle rfl⟩ dX12_draw_11 ?_
        rintro _ mz ⟨rfl, hz⟩
        subst mz
        rw [hic]
        refine go_c1 ?_
        refine gz_eq (by omega) (tgt := 28) dX12_draw_14 (by decide) (fun h14 => by exfalso; omega) (fun h14 => ?_)
        refine go_iload (i := 4) rfl dX12_draw_17 ?_
        refine go_iconst (v := nI 1) (by decide) dX12_draw_19 ?_
        refine go_bipush (v := nI 99) (by decide) dX12_draw_20 ?_
        refine go_callS okmX12_in lmX12_361 ⟨nle rfl, nle rfl⟩ (ex_in) npmX12_in rfl (nle rfl) ⟨nle rfl, nle rfl⟩ dX12_draw_22 ?_
        rintro _ mz ⟨rfl, hz⟩
        subst mz
        rw [hz]
        refine go_c1 ?_
        refine gz_ne (by omega) (tgt := 30) dX12_draw_25 (by decide) (fun h25 => by exfalso; omega) (fun h25 => ?_)
        refine go_iconst (v := -1) (by decide) dX12_draw_28 ?_
        refine go_iret rfl ⟨Nat.zero_le _, Nat.zero_le _⟩ dX12_draw_29 ?_
        have e : drS P (cp 105 (gI m 315) (gI m 316)) (nI i) (nI a) (nI b) n = (-1, none) := by simp only [drS, hh, hca, hz, i10, reduceIte, cpos (show 8 * b + a < 2 ^ 31 by omega)]
        rw [e]
        exact ⟨rfl, RfK.rf⟩
      · skip
        refine go_aload_n (q := 0) (i := 0) rfl rfl dX12_draw_0 ?_
        refine go_iload_n (q := 1) (i := 1) rfl rfl dX12_draw_1 ?_
        refine go_callV okmX12_isHolding lmX12_416 ⟨nle rfl, nle rfl⟩ hx.o ⟨by decide, rfl⟩ (ex_isHolding hx hm) npmX12_isHolding rfl (nle rfl) ⟨nle rfl, nle rfl⟩ dX12_draw_2 ?_
        rintro _ mz ⟨rfl, hz⟩
        subst mz
        rw [hh]
        refine go_c1 ?_
        refine gz_eq (by omega) (tgt := 28) dX12_draw_5 (by decide) (fun h5 => by exfalso; omega) (fun h5 => ?_)
        refine go_aload_n (q := 0) (i := 0) rfl rfl dX12_draw_8 ?_
        refine go_iload_n (q := 2) (i := 2) rfl rfl dX12_draw_9 ?_
        refine go_iload_n (q := 3) (i := 3) rfl rfl dX12_draw_10 ?_
        refine go_callV okmX12_isCell lmX12_394 ⟨nle rfl, nle rfl⟩ hx.o ⟨by decide, rfl⟩ (ex_isCell hx hm) npmX12_isCell rfl (nle rfl) ⟨nle rfl, nle rfl⟩ dX12_draw_11 ?_
        rintro _ mz ⟨rfl, hz⟩
        subst mz
        rw [hic]
        refine go_c1 ?_
        refine gz_eq (by omega) (tgt := 28) dX12_draw_14 (by decide) (fun h14 => by exfalso; omega) (fun h14 => ?_)
        refine go_iload (i := 4) rfl dX12_draw_17 ?_
        refine go_iconst (v := nI 1) (by decide) dX12_draw_19 ?_
        refine go_bipush (v := nI 99) (by decide) dX12_draw_20 ?_
        refine go_callS okmX12_in lmX12_361 ⟨nle rfl, nle rfl⟩ (ex_in) npmX12_in rfl (nle rfl) ⟨nle rfl, nle rfl⟩ dX12_draw_22 ?_
        rintro _ mz ⟨rfl, hz⟩
        subst mz
        rw [hz]
        refine go_c1 ?_
        refine gz_ne (by omega) (tgt := 30) dX12_draw_25 (by decide) (fun h25 => ?_) (fun h25 => by exfalso; omega)
        refine go_bipush (v := nI 8) (by decide) dX12_draw_30 ?_
        refine go_iload_n (q := 3) (i := 3) rfl rfl dX12_draw_32 ?_
        refine gn_mul dX12_draw_33 ?_
        refine go_iload_n (q := 2) (i := 2) rfl rfl dX12_draw_34 ?_
        refine gn_add dX12_draw_35 ?_
        refine go_istore (i := 5) dX12_draw_36 (nle rfl) (nle rfl) ?_
        refine go_aload_n (q := 0) (i := 0) rfl rfl dX12_draw_38 ?_
        refine go_getR lf12_140 rfl hx.o hx.r58 dX12_draw_39 ?_
        refine go_bipush (v := nI 40) (by decide) dX12_draw_42 ?_
        refine go_iload (i := 5) rfl dX12_draw_44 ?_
        refine gn_add dX12_draw_46 ?_
        refine go_iald (j := (40 + ((8 * b) + a))) hx.i58 (by omega) (by first | decide | omega) rfl dX12_draw_47 ?_
        rw [show gI m 315 (40 + (8 * b + a)) = _ from now_R (by omega)]
        refine go_iload_n (q := 1) (i := 1) rfl rfl dX12_draw_48 ?_
        refine go_icmp_ne (tgt := 81) dX12_draw_49 (by decide) (fun h49 => ?_) (fun h49 => ?_)
        · skip
          refine go_bipush (v := -2) (by decide) dX12_draw_81 ?_
          refine go_iret rfl ⟨Nat.zero_le _, Nat.zero_le _⟩ dX12_draw_83 ?_
          have e : drS P (cp 105 (gI m 315) (gI m 316)) (nI i) (nI a) (nI b) (nI z) = (-2, none) := by
            simp only [drS, hh, hca, hz, i10, reduceIte, cpos (show 8 * b + a < 2 ^ 31 by omega), nI_clamp (show 8 * b + a < 2 ^ 31 by omega), nI_clamp (show i < 2 ^ 31 by omega)]
            rw [if_neg h49]
          rw [e]
          exact ⟨rfl, RfK.rf⟩
        · skip
          refine go_aload_n (q := 0) (i := 0) rfl rfl dX12_draw_52 ?_
          refine go_getR lf12_140 rfl hx.o hx.r58 dX12_draw_53 ?_
          refine go_bipush (v := nI 80) (by decide) dX12_draw_56 ?_
          refine go_iload_n (q := 1) (i := 1) rfl rfl dX12_draw_58 ?_
          refine gn_add dX12_draw_59 ?_
          refine go_iald (j := (80 + i)) hx.i58 (by omega) (by first | decide | omega) rfl dX12_draw_60 ?_
          rw [show gI m 315 (80 + i) = _ from now_R (by omega)]
          refine go_iload (i := 4) rfl dX12_draw_61 ?_
          refine go_icmp_lt (tgt := 81) dX12_draw_63 (by decide) (fun h63 => ?_) (fun h63 => ?_)
          · skip
            refine go_bipush (v := -2) (by decide) dX12_draw_81 ?_
            refine go_iret rfl ⟨Nat.zero_le _, Nat.zero_le _⟩ dX12_draw_83 ?_
            have e : drS P (cp 105 (gI m 315) (gI m 316)) (nI i) (nI a) (nI b) (nI z) = (-2, none) := by
              simp only [drS, hh, hca, hz, i10, reduceIte, cpos (show 8 * b + a < 2 ^ 31 by omega), nI_clamp (show 8 * b + a < 2 ^ 31 by omega), nI_clamp (show i < 2 ^ 31 by omega)]
              rw [if_pos h49, if_pos h63]
            rw [e]
            exact ⟨rfl, RfK.rf⟩
          · skip
            refine go_aload_n (q := 0) (i := 0) rfl rfl dX12_draw_66 ?_
            refine go_getR lf12_140 rfl hx.o hx.r58 dX12_draw_67 ?_
            refine go_iload (i := 5) rfl dX12_draw_70 ?_
            refine go_iald (j := ((8 * b) + a)) hx.i58 (by omega) (by first | decide | omega) rfl dX12_draw_72 ?_
            rw [show gI m 315 (8 * b + a) = _ from now_R (by omega)]
            refine go_iload (i := 4) rfl dX12_draw_73 ?_
            refine go_iadd dX12_draw_75 ?_
            refine go_bipush (v := nI 99) (by decide) dX12_draw_76 ?_
            refine go_icmp_le (tgt := 84) dX12_draw_78 (by decide) (fun h78 => ?_) (fun h78 => ?_)
            · skip
              refine go_aload_n (q := 0) (i := 0) rfl rfl dX12_draw_84 ?_
              refine go_callV okmX12_copies lmX12_413 ⟨nle rfl, nle rfl⟩ hx.o ⟨by decide, rfl⟩ (ex_copies hx hm) npmX12_copies rfl (nle rfl) ⟨nle rfl, nle rfl⟩ dX12_draw_85 ?_
              rintro _ m1 ⟨rfl, c1, e1, s1, l1, -⟩
              have hx := c1.wf hx
              have hm := c1.md hm
              refine go_c0 ?_
              refine go_aload_n (q := 0) (i := 0) rfl rfl dX12_draw_88 ?_
              refine go_getR lf12_143 rfl hx.o hx.r59 dX12_draw_89 ?_
              refine go_iload (i := 5) rfl dX12_draw_92 ?_
              refine go_dup2 rfl rfl dX12_draw_94 ?_
              refine go_iald (j := ((8 * b) + a)) hx.i59 (by omega) (by first | decide | omega) rfl dX12_draw_95 ?_
              rw [e1]
              refine go_iload (i := 4) rfl dX12_draw_96 ?_
              refine go_iadd dX12_draw_98 ?_
              refine go_iast (j := ((8 * b) + a)) hx.i59 (by omega) (by first | decide | omega) rfl dX12_draw_99 ?_
              rw [e1]
              generalize hmmA : sI m1 316 _ = mA
              have cA : Mo m mA := c1.tr (Mh.of (by rw [← hmmA]; exact Ch.I (by omega))).1
              have emA : gI mA 316 = upd (cp 105 (gI m 315) (gI m 316)) (8 * b + a) ((cp 105 (gI m 315) (gI m 316)) (8 * b + a) + nI z) := by rw [← hmmA, gI_s]
              have hx := CX12 cA.1 hx0
              refine go_aload_n (q := 0) (i := 0) rfl rfl dX12_draw_100 ?_
              refine go_getR lf12_143 rfl hx.o hx.r59 dX12_draw_101 ?_
              refine go_bipush (v := nI 80) (by decide) dX12_draw_104 ?_
              refine go_iload_n (q := 1) (i := 1) rfl rfl dX12_draw_106 ?_
              refine gn_add dX12_draw_107 ?_
              refine go_dup2 rfl rfl dX12_draw_108 ?_
              refine go_iald (j := (80 + i)) hx.i59 (by omega) (by first | decide | omega) rfl dX12_draw_109 ?_
              rw [emA, upd_ne (by omega)]
              refine go_iload (i := 4) rfl dX12_draw_110 ?_
              refine go_isub dX12_draw_112 ?_
              refine go_iast (j := (80 + i)) hx.i59 (by omega) (by first | decide | omega) rfl dX12_draw_113 ?_
              rw [emA]
              generalize hmmB : sI mA 316 _ = mB
              have cB : Mo m mB := cA.tr (Mh.of (by rw [← hmmB]; exact Ch.I (by omega))).1
              have emB : gI mB 316 = upd (upd (cp 105 (gI m 315) (gI m 316)) (8 * b + a) ((cp 105 (gI m 315) (gI m 316)) (8 * b + a) + nI z)) (80 + i) ((cp 105 (gI m 315) (gI m 316)) (80 + i) - nI z) := by rw [← hmmB, gI_s]
              have hx := CX12 cB.1 hx0
              refine go_aload_n (q := 0) (i := 0) rfl rfl dX12_draw_114 ?_
              refine go_getR lf12_143 rfl hx.o hx.r59 dX12_draw_115 ?_
              refine go_bipush (v := nI 84) (by decide) dX12_draw_118 ?_
              refine go_iload_n (q := 1) (i := 1) rfl rfl dX12_draw_120 ?_
              refine gn_add dX12_draw_121 ?_
              refine go_dup2 rfl rfl dX12_draw_122 ?_
              refine go_iald (j := (84 + i)) hx.i59 (by omega) (by first | decide | omega) rfl dX12_draw_123 ?_
              rw [emB, upd_ne (by omega), upd_ne (by omega)]
              refine go_iload (i := 4) rfl dX12_draw_124 ?_
              refine go_iadd dX12_draw_126 ?_
              refine go_iast (j := (84 + i)) hx.i59 (by omega) (by first | decide | omega) rfl dX12_draw_127 ?_
              rw [emB]
              generalize hmmC : sI mB 316 _ = mC
              have cC : Mo m mC := cB.tr (Mh.of (by rw [← hmmC]; exact Ch.I (by omega))).1
              have emC : gI mC 316 = upd (upd (upd (cp 105 (gI m 315) (gI m 316)) (8 * b + a) ((cp 105 (gI m 315) (gI m 316)) (8 * b + a) + nI z)) (80 + i) ((cp 105 (gI m 315) (gI m 316)) (80 + i) - nI z)) (84 + i) ((cp 105 (gI m 315) (gI m 316)) (84 + i) + nI z) := by rw [← hmmC, gI_s]
              have hx := CX12 cC.1 hx0
              refine go_aload_n (q := 0) (i := 0) rfl rfl dX12_draw_128 ?_
              refine go_callV okmX12_records lmX12_435 ⟨nle rfl, nle rfl⟩ hx.o ⟨by decide, rfl⟩ (ex_records hx hu30 ((cC.2 63 (by decide) (by decide) (by decide)).trans hu1)) npmX12_records rfl (nle rfl) ⟨nle rfl, nle rfl⟩ dX12_draw_129 ?_
              rintro _ mR ⟨rfl, cR1, cR2, cR3, cR4⟩
              have hD : DnM m mR (some (drR (cp 105 (gI m 315) (gI m 316)) i (8 * b + a) (nI z))) := DnM.of cC cR1 cR2 cR3 cR4 (fun q hq => by rw [emC]; rfl)
              have hx := CX12 cR1 hx
              refine go_c0 ?_
              refine go_aload_n (q := 0) (i := 0) rfl rfl dX12_draw_132 ?_
              refine go_getR lf12_140 rfl hx.o hx.r58 dX12_draw_133 ?_
              refine go_iload (i := 5) rfl dX12_draw_136 ?_
              refine go_iald (j := ((8 * b) + a)) hx.i58 (by omega) (by first | decide | omega) rfl dX12_draw_138 ?_
              rw [cR3 (8 * b + a) (by omega), emC, upd_ne (by omega), upd_ne (by omega), upd_eq]
              refine go_iret rfl ⟨Nat.zero_le _, Nat.zero_le _⟩ dX12_draw_139 ?_
              have e : drS P (cp 105 (gI m 315) (gI m 316)) (nI i) (nI a) (nI b) (nI z) = ((cp 105 (gI m 315) (gI m 316)) (8 * b + a) + nI z, some (drR (cp 105 (gI m 315) (gI m 316)) i (8 * b + a) (nI z))) := by
                simp only [drS, hh, hca, hz, i10, reduceIte, cpos (show 8 * b + a < 2 ^ 31 by omega), nI_clamp (show 8 * b + a < 2 ^ 31 by omega), nI_clamp (show i < 2 ^ 31 by omega)]
                rw [if_pos h49, if_neg h63, if_pos h78]
              rw [e]
              exact ⟨rfl, hD⟩
            · skip
              refine go_bipush (v := -2) (by decide) dX12_draw_81 ?_
              refine go_iret rfl ⟨Nat.zero_le _, Nat.zero_le _⟩ dX12_draw_83 ?_
              have e : drS P (cp 105 (gI m 315) (gI m 316)) (nI i) (nI a) (nI b) (nI z) = (-2, none) := by
                simp only [drS, hh, hca, hz, i10, reduceIte, cpos (show 8 * b + a < 2 ^ 31 by omega), nI_clamp (show 8 * b + a < 2 ^ 31 by omega), nI_clamp (show i < 2 ^ 31 by omega)]
                rw [if_pos h49, if_neg h63, if_neg h78]
              rw [e]
              exact ⟨rfl, RfK.rf⟩
