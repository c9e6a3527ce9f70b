def moS (P : Pl) (r : Nat → Int32) (x y h : Int32) : Int32 × Option (Nat → Int32) := if ceS P x y < 0 then (nI 0, none) else if h = -1 then (if r (40 + (ceS P x y).toNatClampNeg) = nI 9 then (nI 0, none) else (nI 1, some (upd r (40 + (ceS P x y).toNatClampNeg) (nI 9)))) else if inS h (nI 0) (nI P.hd - nI 1) = nI 0 then (nI 0, none) else if r (40 + (ceS P x y).toNatClampNeg) = h then (nI 0, none) else (nI 1, some (upd r (40 + (ceS P x y).toNatClampNeg) h))
theorem mo_ok {P : Pl} {M : Nat} {r : Nat → Int32} {x y h : Int32} (ok : PlOk P) (hr : RoOk P M r) : ∀ r', (moS P r x y h).2 = some r' → RoOk P M r' := by
  intro r' e
  have hw8 := ok.1
  have hr5 := ok.2.1
  have hh4 := ok.2.2.1
  rcases ce_c ok x y with ⟨hca, hic⟩ | ⟨a, b, ha, hb, rfl, rfl, hca, hic⟩
  · simp only [moS, hca, cneg, reduceIte] at e
    exact absurd e (by simp)
  by_cases hm1 : h = -1
  · subst hm1
    simp only [moS, hca, reduceIte, cpos (show 8 * b + a < 2 ^ 31 by omega), nI_clamp (show 8 * b + a < 2 ^ 31 by omega)] at e
    by_cases e1 : r (40 + (8 * b + a)) = nI 9
    · rw [if_pos e1] at e
      exact absurd e (by simp)
    · rw [if_neg e1] at e
      rw [← Option.some.inj e]
      exact hr.upw (by omega) (Or.inl rfl)
  rcases hd_c (n := P.hd) (by omega) h with hh | ⟨i, hi, rfl, hh⟩
  · simp only [moS, hh, hca, hm1, reduceIte, cpos (show 8 * b + a < 2 ^ 31 by omega)] at e
    exact absurd e (by simp)
  simp only [moS, hh, hca, hm1, i10, reduceIte, cpos (show 8 * b + a < 2 ^ 31 by omega), nI_clamp (show 8 * b + a < 2 ^ 31 by omega)] at e
  by_cases e1 : r (40 + (8 * b + a)) = nI i
  · rw [if_pos e1] at e
    exact absurd e (by simp)
  · rw [if_neg e1] at e
    rw [← Option.some.inj e]
    exact hr.upw (by omega) (Or.inr ⟨i, hi, rfl⟩)
set_option maxRecDepth 100000 in
set_option maxHeartbeats 8000000 in
theorem ev_move {m : Me} {pl dr M : Nat} {P : Pl} {r : Nat → Int32} (hX : CX m.1 (gR m) pl dr) (hP : PlC m pl P) (ok : PlOk P) (hM : M < 2 ^ 18) (hr : RoOk P M r) (hc : CR P (gw m 15) r) (hps : PsO m) {x y h : Int32} : Ev mX11_move [.ref 0, .int x, .int y, .int h] m (fun o m' => o = some (.int (moS P r x y h).1) ∧ DnC P pl m m' (moS P r x y h).2) := by
  refine ⟨plmX11_move, nle rfl, ?_⟩
  have hw8 := ok.1
  have hr5 := ok.2.1
  have hpd := hX.pd
  have hh4 := ok.2.2.1
  have hu6 := ok.2.2.2.1
  obtain ⟨px, ps, hx30, hs30, hp1, hp2⟩ := hps
  rcases ce_c ok x y with ⟨hca, hic⟩ | ⟨a, b, ha, hb, rfl, rfl, hca, hic⟩
  · skip
    refine go_aload_n (q := 0) (i := 0) rfl rfl dX11_move_0 ?_
    refine go_getR lf11_86 rfl hX.o hX.rp dX11_move_1 ?_
    refine go_iload_n (q := 1) (i := 1) rfl rfl dX11_move_4 ?_
    refine go_iload_n (q := 2) (i := 2) rfl rfl dX11_move_5 ?_
    refine go_callV okmX7_cellAt lmX11_126 ⟨nle rfl, nle rfl⟩ hX.wp.o ⟨by decide, rfl⟩ (ev_cellAt hX.wp) npmX7_cellAt rfl (nle rfl) ⟨nle rfl, nle rfl⟩ dX11_move_6 ?_
    rintro _ mz ⟨rfl, hz⟩
    subst mz
    rw [hP.wd, hP.rw, show caS (nI P.wd) (nI P.rw) _ _ = _ from hca]
    refine go_c1 ?_
    refine go_istore (i := 4) dX11_move_9 (nle rfl) (nle rfl) ?_
    refine go_iload (i := 4) rfl dX11_move_11 ?_
    refine go_if_lt (tgt := 39) dX11_move_13 (by decide) (fun h13 => ?_) (fun h13 => by exfalso; exact h13 (by decide))
    refine go_iconst (v := nI 0) (by decide) dX11_move_39 ?_
    refine go_zret rfl (by decide) ⟨Nat.zero_le _, Nat.zero_le _⟩ dX11_move_40 ?_
    have e : moS P r x y h = (nI 0, none) := by simp only [moS, hca, cneg, reduceIte]
    rw [e]
    exact ⟨rfl, ClK.rf⟩
  · skip
    by_cases hm1 : h = -1
    · skip
      subst hm1
      refine go_aload_n (q := 0) (i := 0) rfl rfl dX11_move_0 ?_
      refine go_getR lf11_86 rfl hX.o hX.rp dX11_move_1 ?_
      refine go_iload_n (q := 1) (i := 1) rfl rfl dX11_move_4 ?_
      refine go_iload_n (q := 2) (i := 2) rfl rfl dX11_move_5 ?_
      refine go_callV okmX7_cellAt lmX11_126 ⟨nle rfl, nle rfl⟩ hX.wp.o ⟨by decide, rfl⟩ (ev_cellAt hX.wp) npmX7_cellAt rfl (nle rfl) ⟨nle rfl, nle rfl⟩ dX11_move_6 ?_
      rintro _ mz ⟨rfl, hz⟩
      subst mz
      rw [hP.wd, hP.rw, show caS (nI P.wd) (nI P.rw) _ _ = _ from hca]
      refine go_c1 ?_
      refine go_istore (i := 4) dX11_move_9 (nle rfl) (nle rfl) ?_
      refine go_iload (i := 4) rfl dX11_move_11 ?_
      refine gz_lt (by omega) (tgt := 39) dX11_move_13 (by decide) (fun h13 => by exfalso; omega) (fun h13 => ?_)
      refine go_iload (i := 4) rfl dX11_move_16 ?_
      refine go_bipush (v := nI 40) (by decide) dX11_move_18 ?_
      refine gn_ge (by omega) (by omega) (tgt := 39) dX11_move_20 (by decide) (fun h20 => by exfalso; omega) (fun h20 => ?_)
      refine go_iload_n (q := 3) (i := 3) rfl rfl dX11_move_23 ?_
      refine go_iconst (v := -1) (by decide) dX11_move_24 ?_
      refine go_icmp_eq (tgt := 41) dX11_move_25 (by decide) (fun h25 => ?_) (fun h25 => by exfalso; exact h25 rfl)
      refine go_iload_n (q := 3) (i := 3) rfl rfl dX11_move_41 ?_
      refine go_iconst (v := -1) (by decide) dX11_move_42 ?_
      refine go_icmp_ne (tgt := 51) dX11_move_43 (by decide) (fun h43 => by exfalso; exact h43 rfl) (fun h43 => ?_)
      refine go_bipush (v := nI 9) (by decide) dX11_move_46 ?_
      refine go_goto (tgt := 52) dX11_move_48 (by decide) ?_
      refine go_istore (i := 5) dX11_move_52 (nle rfl) (nle rfl) ?_
      refine go_aload_n (q := 0) (i := 0) rfl rfl dX11_move_54 ?_
      refine go_getR lf11_47 rfl hX.o hX.r5 dX11_move_55 ?_
      refine go_getR lf11_134 rfl hX.w5.o hX.w5.r2 dX11_move_58 ?_
      refine go_iload (i := 4) rfl dX11_move_61 ?_
      refine go_iald (j := (8 * b + a)) hX.w5.i2 (by omega) (by first | decide | omega) rfl dX11_move_63 ?_
      rw [show gI m (15 + 2) (8 * b + a) = r (40 + (8 * b + a)) from (gw_w (by omega)).trans (hc.w (by omega) (ld_ab ok ha hb))]
      refine go_iload (i := 5) rfl dX11_move_64 ?_
      refine go_icmp_ne (tgt := 71) dX11_move_66 (by decide) (fun h66 => ?_) (fun h66 => ?_)
      · skip
        refine go_aload_n (q := 0) (i := 0) rfl rfl dX11_move_71 ?_
        refine go_getR lf11_57 rfl hX.o hX.r7 dX11_move_72 ?_
        refine go_aload_n (q := 0) (i := 0) rfl rfl dX11_move_75 ?_
        refine go_getR lf11_47 rfl hX.o hX.r5 dX11_move_76 ?_
        refine go_callV okmX6_keep lmX11_194 ⟨nle rfl, nle rfl⟩ hX.w7.o ⟨by decide, rfl⟩ (ev_keep hX.w7 hX.w5 hx30 hs30 hp1 hp2) npmX6_keep rfl (nle rfl) ⟨nle rfl, nle rfl⟩ dX11_move_79 ?_
        rintro _ m1 ⟨rfl, cK, k1, k2, k3, k4⟩
        have hX := CX.to cK hX
        have hcK : CR P (gw m1 15) r := by rw [gw_keep cK (fun y a b => by omega)]; exact hc
        refine go_c0 ?_
        refine go_aload_n (q := 0) (i := 0) rfl rfl dX11_move_82 ?_
        refine go_getR lf11_47 rfl hX.o hX.r5 dX11_move_83 ?_
        refine go_getR lf11_134 rfl hX.w5.o hX.w5.r2 dX11_move_86 ?_
        refine go_iload (i := 4) rfl dX11_move_89 ?_
        refine go_iload (i := 5) rfl dX11_move_91 ?_
        refine go_iast (j := (8 * b + a)) hX.w5.i2 (by omega) (by first | decide | omega) rfl dX11_move_93 ?_
        generalize hmA : sI m1 (15 + 2) _ = mA
        have cA : Ch (fun y => 15 ≤ y ∧ y ≤ 20) m1 mA := by rw [← hmA]; exact Ch.I (by omega)
        have hcA : CR P (gw mA 15) (upd r (40 + (8 * b + a)) (nI 9)) := by
          rw [← hmA, gw_updw (by omega)]
          exact hcK.upw (by omega) (ld_ab ok ha hb)
        refine go_iconst (v := nI 1) (by decide) dX11_move_94 ?_
        refine go_zret rfl (by decide) ⟨Nat.zero_le _, Nat.zero_le _⟩ dX11_move_95 ?_
        have e : moS P r (nI a) (nI b) (-1) = (nI 1, some (upd r (40 + (8 * b + a)) (nI 9))) := by
          simp only [moS, hca, reduceIte, cpos (show 8 * b + a < 2 ^ 31 by omega), nI_clamp (show 8 * b + a < 2 ^ 31 by omega)]
          rw [if_neg h66]
        rw [e]
        exact ⟨rfl, (cK.mn (fun y hy => by unfold DnA LkS; omega)).tr (cA.mn (fun y hy => by unfold DnA LkS; omega)), hcA, KpC.of hx30 hs30 hp1 hp2 k1 k2 k3 k4 (fun y a b => cA.at (by omega))⟩
      · skip
        refine go_iconst (v := nI 0) (by decide) dX11_move_69 ?_
        refine go_zret rfl (by decide) ⟨Nat.zero_le _, Nat.zero_le _⟩ dX11_move_70 ?_
        have e : moS P r (nI a) (nI b) (-1) = (nI 0, none) := by
          simp only [moS, hca, reduceIte, cpos (show 8 * b + a < 2 ^ 31 by omega), nI_clamp (show 8 * b + a < 2 ^ 31 by omega)]
          rw [if_pos h66]
        rw [e]
        exact ⟨rfl, ClK.rf⟩
    · skip
      rcases hd_c (n := P.hd) (by omega) h with hh | ⟨i, hi, rfl, hh⟩
      · skip
        refine go_aload_n (q := 0) (i := 0) rfl rfl dX11_move_0 ?_
        refine go_getR lf11_86 rfl hX.o hX.rp dX11_move_1 ?_
        refine go_iload_n (q := 1) (i := 1) rfl rfl dX11_move_4 ?_
        refine go_iload_n (q := 2) (i := 2) rfl rfl dX11_move_5 ?_
        refine go_callV okmX7_cellAt lmX11_126 ⟨nle rfl, nle rfl⟩ hX.wp.o ⟨by decide, rfl⟩ (ev_cellAt hX.wp) npmX7_cellAt rfl (nle rfl) ⟨nle rfl, nle rfl⟩ dX11_move_6 ?_
        rintro _ mz ⟨rfl, hz⟩
        subst mz
        rw [hP.wd, hP.rw, show caS (nI P.wd) (nI P.rw) _ _ = _ from hca]
        refine go_c1 ?_
        refine go_istore (i := 4) dX11_move_9 (nle rfl) (nle rfl) ?_
        refine go_iload (i := 4) rfl dX11_move_11 ?_
        refine gz_lt (by omega) (tgt := 39) dX11_move_13 (by decide) (fun h13 => by exfalso; omega) (fun h13 => ?_)
        refine go_iload (i := 4) rfl dX11_move_16 ?_
        refine go_bipush (v := nI 40) (by decide) dX11_move_18 ?_
        refine gn_ge (by omega) (by omega) (tgt := 39) dX11_move_20 (by decide) (fun h20 => by exfalso; omega) (fun h20 => ?_)
        refine go_iload_n (q := 3) (i := 3) rfl rfl dX11_move_23 ?_
        refine go_iconst (v := -1) (by decide) dX11_move_24 ?_
        refine go_icmp_eq (tgt := 41) dX11_move_25 (by decide) (fun h25 => by exfalso; exact hm1 h25) (fun h25 => ?_)
        refine go_aload_n (q := 0) (i := 0) rfl rfl dX11_move_28 ?_
        refine go_getR lf11_86 rfl hX.o hX.rp dX11_move_29 ?_
        refine go_iload_n (q := 3) (i := 3) rfl rfl dX11_move_32 ?_
        refine go_callV okmX7_hasHolding lmX11_148 ⟨nle rfl, nle rfl⟩ hX.wp.o ⟨by decide, rfl⟩ (ev_hasHolding hX.wp) npmX7_hasHolding rfl (nle rfl) ⟨nle rfl, nle rfl⟩ dX11_move_33 ?_
        rintro _ mz ⟨rfl, hz⟩
        subst mz
        rw [hP.hd, has_in ok.2.2.1 (by decide), hh]
        refine go_c1 ?_
        refine gz_ne (by omega) (tgt := 41) dX11_move_36 (by decide) (fun h36 => by exfalso; omega) (fun h36 => ?_)
        refine go_iconst (v := nI 0) (by decide) dX11_move_39 ?_
        refine go_zret rfl (by decide) ⟨Nat.zero_le _, Nat.zero_le _⟩ dX11_move_40 ?_
        have e : moS P r (nI a) (nI b) h = (nI 0, none) := by simp only [moS, hh, hca, hm1, reduceIte, cpos (show 8 * b + a < 2 ^ 31 by omega)]
        rw [e]
        exact ⟨rfl, ClK.rf⟩
      · skip
        refine go_aload_n (q := 0) (i := 0) rfl rfl dX11_move_0 ?_
        refine go_getR lf11_86 rfl hX.o hX.rp dX11_move_1 ?_
        refine go_iload_n (q := 1) (i := 1) rfl rfl dX11_move_4 ?_
        refine go_iload_n (q := 2) (i := 2) rfl rfl dX11_move_5 ?_
        refine go_callV okmX7_cellAt lmX11_126 ⟨nle rfl, nle rfl⟩ hX.wp.o ⟨by decide, rfl⟩ (ev_cellAt hX.wp) npmX7_cellAt rfl (nle rfl) ⟨nle rfl, nle rfl⟩ dX11_move_6 ?_
        rintro _ mz ⟨rfl, hz⟩
        subst mz
        rw [hP.wd, hP.rw, show caS (nI P.wd) (nI P.rw) _ _ = _ from hca]
        refine go_c1 ?_
        refine go_istore (i := 4) dX11_move_9 (nle rfl) (nle rfl) ?_
        refine go_iload (i := 4) rfl dX11_move_11 ?_
        refine gz_lt (by omega) (tgt := 39) dX11_move_13 (by decide) (fun h13 => by exfalso; omega) (fun h13 => ?_)
        refine go_iload (i := 4) rfl dX11_move_16 ?_
        refine go_bipush (v := nI 40) (by decide) dX11_move_18 ?_
        refine gn_ge (by omega) (by omega) (tgt := 39) dX11_move_20 (by decide) (fun h20 => by exfalso; omega) (fun h20 => ?_)
        refine go_iload_n (q := 3) (i := 3) rfl rfl dX11_move_23 ?_
        refine go_iconst (v := -1) (by decide) dX11_move_24 ?_
        refine go_icmp_eq (tgt := 41) dX11_move_25 (by decide) (fun h25 => by exfalso; exact hm1 h25) (fun h25 => ?_)
        refine go_aload_n (q := 0) (i := 0) rfl rfl dX11_move_28 ?_
        refine go_getR lf11_86 rfl hX.o hX.rp dX11_move_29 ?_
        refine go_iload_n (q := 3) (i := 3) rfl rfl dX11_move_32 ?_
        refine go_callV okmX7_hasHolding lmX11_148 ⟨nle rfl, nle rfl⟩ hX.wp.o ⟨by decide, rfl⟩ (ev_hasHolding hX.wp) npmX7_hasHolding rfl (nle rfl) ⟨nle rfl, nle rfl⟩ dX11_move_33 ?_
        rintro _ mz ⟨rfl, hz⟩
        subst mz
        rw [hP.hd, has_in ok.2.2.1 (by decide), hh]
        refine go_c1 ?_
        refine gz_ne (by omega) (tgt := 41) dX11_move_36 (by decide) (fun h36 => ?_) (fun h36 => by exfalso; omega)
        refine go_iload_n (q := 3) (i := 3) rfl rfl dX11_move_41 ?_
        refine go_iconst (v := -1) (by decide) dX11_move_42 ?_
        refine go_icmp_ne (tgt := 51) dX11_move_43 (by decide) (fun h43 => ?_) (fun h43 => by exfalso; exact hm1 h43)
        refine go_iload_n (q := 3) (i := 3) rfl rfl dX11_move_51 ?_
        refine go_istore (i := 5) dX11_move_52 (nle rfl) (nle rfl) ?_
        refine go_aload_n (q := 0) (i := 0) rfl rfl dX11_move_54 ?_
        refine go_getR lf11_47 rfl hX.o hX.r5 dX11_move_55 ?_
        refine go_getR lf11_134 rfl hX.w5.o hX.w5.r2 dX11_move_58 ?_
        refine go_iload (i := 4) rfl dX11_move_61 ?_
        refine go_iald (j := (8 * b + a)) hX.w5.i2 (by omega) (by first | decide | omega) rfl dX11_move_63 ?_
        rw [show gI m (15 + 2) (8 * b + a) = r (40 + (8 * b + a)) from (gw_w (by omega)).trans (hc.w (by omega) (ld_ab ok ha hb))]
        refine go_iload (i := 5) rfl dX11_move_64 ?_
        refine go_icmp_ne (tgt := 71) dX11_move_66 (by decide) (fun h66 => ?_) (fun h66 => ?_)
        · skip
          refine go_aload_n (q := 0) (i := 0) rfl rfl dX11_move_71 ?_
          refine go_getR lf11_57 rfl hX.o hX.r7 dX11_move_72 ?_
          refine go_aload_n (q := 0) (i := 0) rfl rfl dX11_move_75 ?_
          refine go_getR lf11_47 rfl hX.o hX.r5 dX11_move_76 ?_
          refine go_callV okmX6_keep lmX11_194 ⟨nle rfl, nle rfl⟩ hX.w7.o ⟨by decide, rfl⟩ (ev_keep hX.w7 hX.w5 hx30 hs30 hp1 hp2) npmX6_keep rfl (nle rfl) ⟨nle rfl, nle rfl⟩ dX11_move_79 ?_
          rintro _ m1 ⟨rfl, cK, k1, k2, k3, k4⟩
          have hX := CX.to cK hX
          have hcK : CR P (gw m1 15) r := by rw [gw_keep cK (fun y a b => by omega)]; exact hc
          refine go_c0 ?_
          refine go_aload_n (q := 0) (i := 0) rfl rfl dX11_move_82 ?_
          refine go_getR lf11_47 rfl hX.o hX.r5 dX11_move_83 ?_
          refine go_getR lf11_134 rfl hX.w5.o hX.w5.r2 dX11_move_86 ?_
          refine go_iload (i := 4) rfl dX11_move_89 ?_
          refine go_iload (i := 5) rfl dX11_move_91 ?_
          refine go_iast (j := (8 * b + a)) hX.w5.i2 (by omega) (by first | decide | omega) rfl dX11_move_93 ?_
          generalize hmA : sI m1 (15 + 2) _ = mA
          have cA : Ch (fun y => 15 ≤ y ∧ y ≤ 20) m1 mA := by rw [← hmA]; exact Ch.I (by omega)
          have hcA : CR P (gw mA 15) (upd r (40 + (8 * b + a)) (nI i)) := by
            rw [← hmA, gw_updw (by omega)]
            exact hcK.upw (by omega) (ld_ab ok ha hb)
          refine go_iconst (v := nI 1) (by decide) dX11_move_94 ?_
          refine go_zret rfl (by decide) ⟨Nat.zero_le _, Nat.zero_le _⟩ dX11_move_95 ?_
          have e : moS P r (nI a) (nI b) (nI i) = (nI 1, some (upd r (40 + (8 * b + a)) (nI i))) := by
            simp only [moS, hh, hca, hm1, i10, reduceIte, cpos (show 8 * b + a < 2 ^ 31 by omega), nI_clamp (show 8 * b + a < 2 ^ 31 by omega)]
            rw [if_neg h66]
          rw [e]
          exact ⟨rfl, (cK.mn (fun y hy => by unfold DnA LkS; omega)).tr (cA.mn (fun y hy => by unfold DnA LkS; omega)), hcA, KpC.of hx30 hs30 hp1 hp2 k1 k2 k3 k4 (fun y a b => cA.at (by omega))⟩
        · skip
          refine go_iconst (v := nI 0) (by decide) dX11_move_69 ?_
          refine go_zret rfl (by decide) ⟨Nat.zero_le _, Nat.zero_le _⟩ dX11_move_70 ?_
          have e : moS P r (nI a) (nI b) (nI i) = (nI 0, none) := by
            simp only [moS, hh, hca, hm1, i10, reduceIte, cpos (show 8 * b + a < 2 ^ 31 by omega), nI_clamp (show 8 * b + a < 2 ^ 31 by omega)]
            rw [if_pos h66]
          rw [e]
          exact ⟨rfl, ClK.rf⟩
set_option maxRecDepth 100000 in
set_option maxHeartbeats 8000000 in
theorem ex_move {m : Me} {P : Pl} {lv : Nat} (hx : Wf12 m.1 (gR m)) (hm : MdC m P lv) (ok : PlOk P) (hps : PsM m) {x y h : Int32} : Ev mX12_move [.ref 274, .int x, .int y, .int h] m (fun o m' => o = some (.int (moS P (cp 105 (gI m 315) (gI m 316)) x y h).1) ∧ DnM m m' (moS P (cp 105 (gI m 315) (gI m 316)) x y h).2) := by
  refine ⟨plmX12_move, nle rfl, ?_⟩
  have hw8 := ok.1
  have hr5 := ok.2.1
  have hlv := hm.lv
  have hh4 := ok.2.2.1
  have hu6 := ok.2.2.2.1
  obtain ⟨u, hu30, hu1⟩ := hps
  have hx0 := hx
  rcases ce_c ok x y with ⟨hca, hic⟩ | ⟨a, b, ha, hb, rfl, rfl, hca, hic⟩
  · skip
    refine go_aload_n (q := 0) (i := 0) rfl rfl dX12_move_0 ?_
    refine go_iload_n (q := 1) (i := 1) rfl rfl dX12_move_1 ?_
    refine go_iload_n (q := 2) (i := 2) rfl rfl dX12_move_2 ?_
    refine go_callV okmX12_isCell lmX12_394 ⟨nle rfl, nle rfl⟩ hx.o ⟨by decide, rfl⟩ (ex_isCell hx hm) npmX12_isCell rfl (nle rfl) ⟨nle rfl, nle rfl⟩ dX12_move_3 ?_
    rintro _ mz ⟨rfl, hz⟩
    subst mz
    rw [hic]
    refine go_c1 ?_
    refine gz_eq (by omega) (tgt := 22) dX12_move_6 (by decide) (fun h6 => ?_) (fun h6 => by exfalso; omega)
    refine go_iconst (v := nI 0) (by decide) dX12_move_22 ?_
    refine go_zret rfl (by decide) ⟨Nat.zero_le _, Nat.zero_le _⟩ dX12_move_23 ?_
    have e : moS P (cp 105 (gI m 315) (gI m 316)) x y h = (nI 0, none) := by simp only [moS, hca, cneg, reduceIte]
    rw [e]
    exact ⟨rfl, RfK.rf⟩
  · skip
    by_cases hm1 : h = -1
    · skip
      subst hm1
      refine go_aload_n (q := 0) (i := 0) rfl rfl dX12_move_0 ?_
      refine go_iload_n (q := 1) (i := 1) rfl rfl dX12_move_1 ?_
      refine go_iload_n (q := 2) (i := 2) rfl rfl dX12_move_2 ?_
      refine go_callV okmX12_isCell lmX12_394 ⟨nle rfl, nle rfl⟩ hx.o ⟨by decide, rfl⟩ (ex_isCell hx hm) npmX12_isCell rfl (nle rfl) ⟨nle rfl, nle rfl⟩ dX12_move_3 ?_
      rintro _ mz ⟨rfl, hz⟩
      subst mz
      rw [hic]
      refine go_c1 ?_
      refine gz_eq (by omega) (tgt := 22) dX12_move_6 (by decide) (fun h6 => by exfalso; omega) (fun h6 => ?_)
      refine go_iload_n (q := 3) (i := 3) rfl rfl dX12_move_9 ?_
      refine go_iconst (v := -1) (by decide) dX12_move_10 ?_
      refine go_icmp_eq (tgt := 24) dX12_move_11 (by decide) (fun h11 => ?_) (fun h11 => by exfalso; exact h11 rfl)
      refine go_iload_n (q := 3) (i := 3) rfl rfl dX12_move_24 ?_
      refine go_iconst (v := -1) (by decide) dX12_move_25 ?_
      refine go_icmp_ne (tgt := 34) dX12_move_26 (by decide) (fun h26 => by exfalso; exact h26 rfl) (fun h26 => ?_)
      refine go_bipush (v := nI 9) (by decide) dX12_move_29 ?_
      refine go_goto (tgt := 35) dX12_move_31 (by decide) ?_
      refine go_istore (i := 4) dX12_move_35 (nle rfl) (nle rfl) ?_
      refine go_aload_n (q := 0) (i := 0) rfl rfl dX12_move_37 ?_
      refine go_getR lf12_140 rfl hx.o hx.r58 dX12_move_38 ?_
      refine go_bipush (v := nI 40) (by decide) dX12_move_41 ?_
      refine go_bipush (v := nI 8) (by decide) dX12_move_43 ?_
      refine go_iload_n (q := 2) (i := 2) rfl rfl dX12_move_45 ?_
      refine gn_mul dX12_move_46 ?_
      refine gn_add dX12_move_47 ?_
      refine go_iload_n (q := 1) (i := 1) rfl rfl dX12_move_48 ?_
      refine gn_add dX12_move_49 ?_
      rw [show 40 + 8 * b + a = 40 + (8 * b + a) by omega]
      refine go_iald (j := ((40 + (8 * b + a)))) hx.i58 (by omega) (by first | decide | omega) rfl dX12_move_50 ?_
      rw [show gI m 315 (40 + (8 * b + a)) = _ from now_R (by omega)]
      refine go_iload (i := 4) rfl dX12_move_51 ?_
      refine go_icmp_ne (tgt := 58) dX12_move_53 (by decide) (fun h53 => ?_) (fun h53 => ?_)
      · skip
        refine go_aload_n (q := 0) (i := 0) rfl rfl dX12_move_58 ?_
        refine go_callV okmX12_copies lmX12_413 ⟨nle rfl, nle rfl⟩ hx.o ⟨by decide, rfl⟩ (ex_copies hx hm) npmX12_copies rfl (nle rfl) ⟨nle rfl, nle rfl⟩ dX12_move_59 ?_
        rintro _ m1 ⟨rfl, c1, e1, s1, l1, -⟩
        have hx := c1.wf hx
        have hm := c1.md hm
        refine go_c0 ?_
        refine go_aload_n (q := 0) (i := 0) rfl rfl dX12_move_62 ?_
        refine go_getR lf12_143 rfl hx.o hx.r59 dX12_move_63 ?_
        refine go_bipush (v := nI 40) (by decide) dX12_move_66 ?_
        refine go_bipush (v := nI 8) (by decide) dX12_move_68 ?_
        refine go_iload_n (q := 2) (i := 2) rfl rfl dX12_move_70 ?_
        refine gn_mul dX12_move_71 ?_
        refine gn_add dX12_move_72 ?_
        refine go_iload_n (q := 1) (i := 1) rfl rfl dX12_move_73 ?_
        refine gn_add dX12_move_74 ?_
        rw [show 40 + 8 * b + a = 40 + (8 * b + a) by omega]
        refine go_iload (i := 4) rfl dX12_move_75 ?_
        refine go_iast (j := ((40 + (8 * b + a)))) hx.i59 (by omega) (by first | decide | omega) rfl dX12_move_77 ?_
        rw [e1]
        generalize hmmA : sI m1 316 _ = mA
        have cA : Mo m mA := c1.tr (Mh.of (by rw [← hmmA]; exact Ch.I (by omega))).1
        have emA : gI mA 316 = upd (cp 105 (gI m 315) (gI m 316)) (40 + (8 * b + a)) (nI 9) := by rw [← hmmA, gI_s]
        have hx := CX12 cA.1 hx0
        refine go_aload_n (q := 0) (i := 0) rfl rfl dX12_move_78 ?_
        refine go_callV okmX12_records lmX12_435 ⟨nle rfl, nle rfl⟩ hx.o ⟨by decide, rfl⟩ (ex_records hx hu30 ((cA.2 63 (by decide) (by decide) (by decide)).trans hu1)) npmX12_records rfl (nle rfl) ⟨nle rfl, nle rfl⟩ dX12_move_79 ?_
        rintro _ mR ⟨rfl, cR1, cR2, cR3, cR4⟩
        have hD : DnM m mR (some (upd (cp 105 (gI m 315) (gI m 316)) (40 + (8 * b + a)) (nI 9))) := DnM.of cA cR1 cR2 cR3 cR4 (fun q hq => by rw [emA])
        have hx := CX12 cR1 hx
        refine go_c0 ?_
        refine go_iconst (v := nI 1) (by decide) dX12_move_82 ?_
        refine go_zret rfl (by decide) ⟨Nat.zero_le _, Nat.zero_le _⟩ dX12_move_83 ?_
        have e : moS P (cp 105 (gI m 315) (gI m 316)) (nI a) (nI b) (-1) = (nI 1, some (upd (cp 105 (gI m 315) (gI m 316)) (40 + (8 * b + a)) (nI 9))) := by
          simp only [moS, hca, reduceIte, cpos (show 8 * b + a < 2 ^ 31 by omega), nI_clamp (show 8 * b + a < 2 ^ 31 by omega)]
          rw [if_neg h53]
        rw [e]
        exact ⟨rfl, hD⟩
      · skip
        refine go_iconst (v := nI 0) (by decide) dX12_move_56 ?_
        refine go_zret rfl (by decide) ⟨Nat.zero_le _, Nat.zero_le _⟩ dX12_move_57 ?_
        have e : moS P (cp 105 (gI m 315) (gI m 316)) (nI a) (nI b) (-1) = (nI 0, none) := by
          simp only [moS, hca, reduceIte, cpos (show 8 * b + a < 2 ^ 31 by omega), nI_clamp (show 8 * b + a < 2 ^ 31 by omega)]
          rw [if_pos h53]
        rw [e]
        exact ⟨rfl, RfK.rf⟩
    · skip
      rcases hd_c (n := P.hd) (by omega) h with hh | ⟨i, hi, rfl, hh⟩
      · skip
        refine go_aload_n (q := 0) (i := 0) rfl rfl dX12_move_0 ?_
        refine go_iload_n (q := 1) (i := 1) rfl rfl dX12_move_1 ?_
        refine go_iload_n (q := 2) (i := 2) rfl rfl dX12_move_2 ?_
        refine go_callV okmX12_isCell lmX12_394 ⟨nle rfl, nle rfl⟩ hx.o ⟨by decide, rfl⟩ (ex_isCell hx hm) npmX12_isCell rfl (nle rfl) ⟨nle rfl, nle rfl⟩ dX12_move_3 ?_
        rintro _ mz ⟨rfl, hz⟩
        subst mz
        rw [hic]
        refine go_c1 ?_
        refine gz_eq (by omega) (tgt := 22) dX12_move_6 (by decide) (fun h6 => by exfalso; omega) (fun h6 => ?_)
        refine go_iload_n (q := 3) (i := 3) rfl rfl dX12_move_9 ?_
        refine go_iconst (v := -1) (by decide) dX12_move_10 ?_
        refine go_icmp_eq (tgt := 24) dX12_move_11 (by decide) (fun h11 => by exfalso; exact hm1 h11) (fun h11 => ?_)
        refine go_aload_n (q := 0) (i := 0) rfl rfl dX12_move_14 ?_
        refine go_iload_n (q := 3) (i := 3) rfl rfl dX12_move_15 ?_
        refine go_callV okmX12_isHolding lmX12_416 ⟨nle rfl, nle rfl⟩ hx.o ⟨by decide, rfl⟩ (ex_isHolding hx hm) npmX12_isHolding rfl (nle rfl) ⟨nle rfl, nle rfl⟩ dX12_move_16 ?_
        rintro _ mz ⟨rfl, hz⟩
        subst mz
        rw [hh]
        refine go_c1 ?_
        refine gz_ne (by omega) (tgt := 24) dX12_move_19 (by decide) (fun h19 => by exfalso; omega) (fun h19 => ?_)
        refine go_iconst (v := nI 0) (by decide) dX12_move_22 ?_
        refine go_zret rfl (by decide) ⟨Nat.zero_le _, Nat.zero_le _⟩ dX12_move_23 ?_
        have e : moS P (cp 105 (gI m 315) (gI m 316)) (nI a) (nI b) h = (nI 0, none) := by simp only [moS, hh, hca, hm1, reduceIte, cpos (show 8 * b + a < 2 ^ 31 by omega)]
        rw [e]
        exact ⟨rfl, RfK.rf⟩
      · skip
        refine go_aload_n (q := 0) (i := 0) rfl rfl dX12_move_0 ?_
        refine go_iload_n (q := 1) (i := 1) rfl rfl dX12_move_1 ?_
        refine go_iload_n (q := 2) (i := 2) rfl rfl dX12_move_2 ?_
        refine go_callV okmX12_isCell lmX12_394 ⟨nle rfl, nle rfl⟩ hx.o ⟨by decide, rfl⟩ (ex_isCell hx hm) npmX12_isCell rfl (nle rfl) ⟨nle rfl, nle rfl⟩ dX12_move_3 ?_
        rintro _ mz ⟨rfl, hz⟩
        subst mz
        rw [hic]
        refine go_c1 ?_
        refine gz_eq (by omega) (tgt := 22) dX12_move_6 (by decide) (fun h6 => by exfalso; omega) (fun h6 => ?_)
        refine go_iload_n (q := 3) (i := 3) rfl rfl dX12_move_9 ?_
        refine go_iconst (v := -1) (by decide) dX12_move_10 ?_
        refine go_icmp_eq (tgt := 24) dX12_move_11 (by decide) (fun h11 => by exfalso; exact hm1 h11) (fun h11 => ?_)
        refine go_aload_n (q := 0) (i := 0) rfl rfl dX12_move_14 ?_
        refine go_iload_n (q := 3) (i := 3) rfl rfl dX12_move_15 ?_
        refine go_callV okmX12_isHolding lmX12_416 ⟨nle rfl, nle rfl⟩ hx.o ⟨by decide, rfl⟩ (ex_isHolding hx hm) npmX12_isHolding rfl (nle rfl) ⟨nle rfl, nle rfl⟩ dX12_move_16 ?_
        rintro _ mz ⟨rfl, hz⟩
        subst mz
        rw [hh]
        refine go_c1 ?_
        refine gz_ne (by omega) (tgt := 24) dX12_move_19 (by decide) (fun h19 => ?_) (fun h19 => by exfalso; omega)
        refine go_iload_n (q := 3) (i := 3) rfl rfl dX12_move_24 ?_
        refine go_iconst (v := -1) (by decide) dX12_move_25 ?_
        refine go_icmp_ne (tgt := 34) dX12_move_26 (by decide) (fun h26 => ?_) (fun h26 => by exfalso; exact hm1 h26)
        refine go_iload_n (q := 3) (i := 3) rfl rfl dX12_move_34 ?_
        refine go_istore (i := 4) dX12_move_35 (nle rfl) (nle rfl) ?_
        refine go_aload_n (q := 0) (i := 0) rfl rfl dX12_move_37 ?_
        refine go_getR lf12_140 rfl hx.o hx.r58 dX12_move_38 ?_
        refine go_bipush (v := nI 40) (by decide) dX12_move_41 ?_
        refine go_bipush (v := nI 8) (by decide) dX12_move_43 ?_
        refine go_iload_n (q := 2) (i := 2) rfl rfl dX12_move_45 ?_
        refine gn_mul dX12_move_46 ?_
        refine gn_add dX12_move_47 ?_
        refine go_iload_n (q := 1) (i := 1) rfl rfl dX12_move_48 ?_
        refine gn_add dX12_move_49 ?_
        rw [show 40 + 8 * b + a = 40 + (8 * b + a) by omega]
        refine go_iald (j := ((40 + (8 * b + a)))) hx.i58 (by omega) (by first | decide | omega) rfl dX12_move_50 ?_
        rw [show gI m 315 (40 + (8 * b + a)) = _ from now_R (by omega)]
        refine go_iload (i := 4) rfl dX12_move_51 ?_
        refine go_icmp_ne (tgt := 58) dX12_move_53 (by decide) (fun h53 => ?_) (fun h53 => ?_)
        · skip
          refine go_aload_n (q := 0) (i := 0) rfl rfl dX12_move_58 ?_
          refine go_callV okmX12_copies lmX12_413 ⟨nle rfl, nle rfl⟩ hx.o ⟨by decide, rfl⟩ (ex_copies hx hm) npmX12_copies rfl (nle rfl) ⟨nle rfl, nle rfl⟩ dX12_move_59 ?_
          rintro _ m1 ⟨rfl, c1, e1, s1, l1, -⟩
          have hx := c1.wf hx
          have hm := c1.md hm
          refine go_c0 ?_
          refine go_aload_n (q := 0) (i := 0) rfl rfl dX12_move_62 ?_
          refine go_getR lf12_143 rfl hx.o hx.r59 dX12_move_63 ?_
          refine go_bipush (v := nI 40) (by decide) dX12_move_66 ?_
          refine go_bipush (v := nI 8) (by decide) dX12_move_68 ?_
          refine go_iload_n (q := 2) (i := 2) rfl rfl dX12_move_70 ?_
          refine gn_mul dX12_move_71 ?_
          refine gn_add dX12_move_72 ?_
          refine go_iload_n (q := 1) (i := 1) rfl rfl dX12_move_73 ?_
          refine gn_add dX12_move_74 ?_
          rw [show 40 + 8 * b + a = 40 + (8 * b + a) by omega]
          refine go_iload (i := 4) rfl dX12_move_75 ?_
          refine go_iast (j := ((40 + (8 * b + a)))) hx.i59 (by omega) (by first | decide | omega) rfl dX12_move_77 ?_
          rw [e1]
          generalize hmmA : sI m1 316 _ = mA
          have cA : Mo m mA := c1.tr (Mh.of (by rw [← hmmA]; exact Ch.I (by omega))).1
          have emA : gI mA 316 = upd (cp 105 (gI m 315) (gI m 316)) (40 + (8 * b + a)) (nI i) := by rw [← hmmA, gI_s]
          have hx := CX12 cA.1 hx0
          refine go_aload_n (q := 0) (i := 0) rfl rfl dX12_move_78 ?_
          refine go_callV okmX12_records lmX12_435 ⟨nle rfl, nle rfl⟩ hx.o ⟨by decide, rfl⟩ (ex_records hx hu30 ((cA.2 63 (by decide) (by decide) (by decide)).trans hu1)) npmX12_records rfl (nle rfl) ⟨nle rfl, nle rfl⟩ dX12_move_79 ?_
          rintro _ mR ⟨rfl, cR1, cR2, cR3, cR4⟩
          have hD : DnM m mR (some (upd (cp 105 (gI m 315) (gI m 316)) (40 + (8 * b + a)) (nI i))) := DnM.of cA cR1 cR2 cR3 cR4 (fun q hq => by rw [emA])
          have hx := CX12 cR1 hx
          refine go_c0 ?_
          refine go_iconst (v := nI 1) (by decide) dX12_move_82 ?_
          refine go_zret rfl (by decide) ⟨Nat.zero_le _, Nat.zero_le _⟩ dX12_move_83 ?_
          have e : moS P (cp 105 (gI m 315) (gI m 316)) (nI a) (nI b) (nI i) = (nI 1, some (upd (cp 105 (gI m 315) (gI m 316)) (40 + (8 * b + a)) (nI i))) := by
            simp only [moS, hh, hca, hm1, i10, reduceIte, cpos (show 8 * b + a < 2 ^ 31 by omega), nI_clamp (show 8 * b + a < 2 ^ 31 by omega)]
            rw [if_neg h53]
          rw [e]
          exact ⟨rfl, hD⟩
        · skip
          refine go_iconst (v := nI 0) (by decide) dX12_move_56 ?_
          refine go_zret rfl (by decide) ⟨Nat.zero_le _, Nat.zero_le _⟩ dX12_move_57 ?_
          have e : moS P (cp 105 (gI m 315) (gI m 316)) (nI a) (nI b) (nI i) = (nI 0, none) := by
            simp only [moS, hh, hca, hm1, i10, reduceIte, cpos (show 8 * b + a < 2 ^ 31 by omega), nI_clamp (show 8 * b + a < 2 ^ 31 by omega)]
            rw [if_pos h53]
          rw [e]
          exact ⟨rfl, RfK.rf⟩
noncomputable def huS (P : Pl) (r : Nat → Int32) (n : Int32) : Int32 × Option (Nat → Int32) := if inS n (nI 0) (nI 48) = nI 0 then (-1, none) else if n = nI 0 then (r 104, none) else (hrN P (-1) P.se n.toNatClampNeg r 104, some (hrN P (-1) P.se n.toNatClampNeg r))
theorem hu_ok {P : Pl} {M : Nat} {r : Nat → Int32} {n : Int32} (ok : PlOk P) (hM : M < 2 ^ 18) (hr : RoOk P M r) : ∀ r', (huS P r n).2 = some r' → RoOk P (M + 48) r' := by
  intro r' e
  rcases in_c n (N := 48) (by decide) with hn | ⟨j, hj, rfl, hn⟩
  · simp only [huS, hn, reduceIte] at e
    exact absurd e (by simp)
  by_cases hj0 : j = 0
  · subst hj0
    simp only [huS, hn, i10, reduceIte] at e
    exact absurd e (by simp)
  · have h0 : (nI j = nI 0) = False := nI_ne (by omega) (by omega) hj0
    simp only [huS, hn, h0, i10, reduceIte, nI_clamp (show j < 2 ^ 31 by omega)] at e
    rw [← Option.some.inj e]
    exact (hrN_ok (M := M) ok hr j (by omega)).le (by omega)
theorem PlC.kp {m m' : Me} {pl dr : Nat} {P : Pl} {A : Nat → Prop} (hX : CX m.1 (gR m) pl dr) (c : Ch A m m') (hA : ∀ x, 226 ≤ x → x < 256 → ¬ A x) (h : PlC m pl P) : PlC m' pl P := by
  have := hX.pd
  exact h.keep (fun x h1 h2 h3 => c.at (hA x (by omega) (by omega)))
set_option maxRecDepth 100000 in
set_option maxHeartbeats 8000000 in
theorem ev_hours {m : Me} {pl dr M : Nat} {P : Pl} {r : Nat → Int32} (hX : CX m.1 (gR m) pl dr) (hP : PlC m pl P) (ok : PlOk P) (hM : M < 2 ^ 18) (hr : RoOk P M r) (hc : CR P (gw m 15) r) (hps : PsO m) {n : Int32} : Ev mX11_hours [.ref 0, .int n] m (fun o m' => o = some (.int (huS P r n).1) ∧ DnC P pl m m' (huS P r n).2) := by
  refine ⟨plmX11_hours, nle rfl, ?_⟩
  have hw8 := ok.1
  have hr5 := ok.2.1
  have hpd := hX.pd
  have hh4 := ok.2.2.1
  have hu6 := ok.2.2.2.1
  obtain ⟨px, ps, hx30, hs30, hp1, hp2⟩ := hps
  rcases in_c n (N := 48) (by decide) with hn | ⟨j, hj, rfl, hn⟩
  · skip
    refine go_iload_n (q := 1) (i := 1) rfl rfl dX11_hours_0 ?_
    refine go_if_lt (tgt := 10) dX11_hours_1 (by decide) (fun h1 => ?_) (fun h1 => ?_)
    · skip
      refine go_iconst (v := -1) (by decide) dX11_hours_10 ?_
      refine go_iret rfl ⟨Nat.zero_le _, Nat.zero_le _⟩ dX11_hours_11 ?_
      have e : huS P r n = (-1, none) := by simp only [huS, hn, reduceIte]
      rw [e]
      exact ⟨rfl, ClK.rf⟩
    · skip
      refine go_iload_n (q := 1) (i := 1) rfl rfl dX11_hours_4 ?_
      refine go_bipush (v := nI 48) (by decide) dX11_hours_5 ?_
      refine go_icmp_le (tgt := 12) dX11_hours_7 (by decide) (fun h7 => by exfalso; exact absurd (hn.symm.trans (in_yes (by rw [nI_0]; exact h1) (Int32.not_lt.mpr h7))) (by decide)) (fun h7 => ?_)
      refine go_iconst (v := -1) (by decide) dX11_hours_10 ?_
      refine go_iret rfl ⟨Nat.zero_le _, Nat.zero_le _⟩ dX11_hours_11 ?_
      have e : huS P r n = (-1, none) := by simp only [huS, hn, reduceIte]
      rw [e]
      exact ⟨rfl, ClK.rf⟩
  · skip
    by_cases hj0 : j = 0
    · skip
      subst hj0
      refine go_iload_n (q := 1) (i := 1) rfl rfl dX11_hours_0 ?_
      refine gz_lt (by omega) (tgt := 10) dX11_hours_1 (by decide) (fun h1 => by exfalso; omega) (fun h1 => ?_)
      refine go_iload_n (q := 1) (i := 1) rfl rfl dX11_hours_4 ?_
      refine go_bipush (v := nI 48) (by decide) dX11_hours_5 ?_
      refine gn_le (by omega) (by omega) (tgt := 12) dX11_hours_7 (by decide) (fun h7 => ?_) (fun h7 => by exfalso; omega)
      refine go_iload_n (q := 1) (i := 1) rfl rfl dX11_hours_12 ?_
      refine gz_le (by omega) (tgt := 61) dX11_hours_13 (by decide) (fun h13 => ?_) (fun h13 => by exfalso; omega)
      refine go_aload_n (q := 0) (i := 0) rfl rfl dX11_hours_61 ?_
      refine go_getR lf11_47 rfl hX.o hX.r5 dX11_hours_62 ?_
      refine go_getI lf11_137 rfl hX.w5.o dX11_hours_65 ?_
      rw [show gI m 15 0 = r 104 from (gw_h (m := m) (g := 15)).trans (hc.s (by omega) (by omega))]
      refine go_iret rfl ⟨Nat.zero_le _, Nat.zero_le _⟩ dX11_hours_68 ?_
      have e : huS P r (nI 0) = (r 104, none) := by simp only [huS, hn, i10, reduceIte]
      rw [e]
      exact ⟨rfl, ClK.rf⟩
    · skip
      have h0 : (nI j = nI 0) = False := nI_ne (by omega) (by omega) hj0
      refine go_iload_n (q := 1) (i := 1) rfl rfl dX11_hours_0 ?_
      refine gz_lt (by omega) (tgt := 10) dX11_hours_1 (by decide) (fun h1 => by exfalso; omega) (fun h1 => ?_)
      refine go_iload_n (q := 1) (i := 1) rfl rfl dX11_hours_4 ?_
      refine go_bipush (v := nI 48) (by decide) dX11_hours_5 ?_
      refine gn_le (by omega) (by omega) (tgt := 12) dX11_hours_7 (by decide) (fun h7 => ?_) (fun h7 => by exfalso; omega)
      refine go_iload_n (q := 1) (i := 1) rfl rfl dX11_hours_12 ?_
      refine gz_le (by omega) (tgt := 61) dX11_hours_13 (by decide) (fun h13 => by exfalso; omega) (fun h13 => ?_)
      refine go_aload_n (q := 0) (i := 0) rfl rfl dX11_hours_16 ?_
      refine go_getR lf11_57 rfl hX.o hX.r7 dX11_hours_17 ?_
      refine go_aload_n (q := 0) (i := 0) rfl rfl dX11_hours_20 ?_
      refine go_getR lf11_47 rfl hX.o hX.r5 dX11_hours_21 ?_
      refine go_callV okmX6_keep lmX11_194 ⟨nle rfl, nle rfl⟩ hX.w7.o ⟨by decide, rfl⟩ (ev_keep hX.w7 hX.w5 hx30 hs30 hp1 hp2) npmX6_keep rfl (nle rfl) ⟨nle rfl, nle rfl⟩ dX11_hours_24 ?_
      rintro _ m1 ⟨rfl, cK, k1, k2, k3, k4⟩
      have hP := PlC.kp hX cK (fun x a b => by omega) hP
      have hX := CX.to cK hX
      have hcK : CR P (gw m1 15) r := by rw [gw_keep cK (fun y a b => by omega)]; exact hc
      refine go_c0 ?_
      refine go_aload_n (q := 0) (i := 0) rfl rfl dX11_hours_27 ?_
      refine go_getR lf11_51 rfl hX.o hX.r6 dX11_hours_28 ?_
      refine go_aload_n (q := 0) (i := 0) rfl rfl dX11_hours_31 ?_
      refine go_getR lf11_47 rfl hX.o hX.r5 dX11_hours_32 ?_
      refine go_callV okmX1_copyFrom lmX11_205 ⟨nle rfl, nle rfl⟩ hX.w6.o ⟨by decide, rfl⟩ (ev_copyFrom hX.w6 hX.w5 (by omega)) npmX1_copyFrom rfl (nle rfl) ⟨nle rfl, nle rfl⟩ dX11_hours_35 ?_
      rintro _ m2 ⟨rfl, cA, eA⟩
      have hP := PlC.kp hX cA (fun x a b => by omega) hP
      have hX := CX.to cA hX
      have hc2 : CR P (gw m2 21) r := by rw [eA]; exact hcK
      refine go_c0 ?_
      refine go_aload_n (q := 0) (i := 0) rfl rfl dX11_hours_38 ?_
      refine go_iload_n (q := 1) (i := 1) rfl rfl dX11_hours_39 ?_
      refine go_aload_n (q := 0) (i := 0) rfl rfl dX11_hours_40 ?_
      refine go_getR lf11_86 rfl hX.o hX.rp dX11_hours_41 ?_
      refine go_getI lf11_208 rfl hX.wp.o dX11_hours_44 ?_
      rw [hP.se]
      refine go_callV okmX11_passLater lmX11_211 ⟨nle rfl, nle rfl⟩ hX.o ⟨by decide, rfl⟩ (ev_passLater (M := M) hX hP ok (by omega) hM hr hc2) npmX11_passLater rfl (nle rfl) ⟨nle rfl, nle rfl⟩ dX11_hours_47 ?_
      rintro _ m3 ⟨rfl, cB, hc3⟩
      have hP := hP.lk hX cB
      have hX := CX.to cB hX
      refine go_c0 ?_
      refine go_aload_n (q := 0) (i := 0) rfl rfl dX11_hours_50 ?_
      refine go_getR lf11_47 rfl hX.o hX.r5 dX11_hours_51 ?_
      refine go_aload_n (q := 0) (i := 0) rfl rfl dX11_hours_54 ?_
      refine go_getR lf11_51 rfl hX.o hX.r6 dX11_hours_55 ?_
      refine go_callV okmX1_copyFrom lmX11_205 ⟨nle rfl, nle rfl⟩ hX.w5.o ⟨by decide, rfl⟩ (ev_copyFrom hX.w5 hX.w6 (by omega)) npmX1_copyFrom rfl (nle rfl) ⟨nle rfl, nle rfl⟩ dX11_hours_58 ?_
      rintro _ m4 ⟨rfl, cC, eC⟩
      have hX := CX.to cC hX
      have hc4 : CR P (gw m4 15) (hrN P (-1) P.se j r) := by rw [eC]; exact hc3
      have cAll : Ch (fun y => (15 ≤ y ∧ y ≤ 26) ∨ y = 14 ∨ y = pl + 12 ∨ y = pl + 13) m1 m4 := ((cA.mn (fun y hy => by omega)).tr (cB.mn (fun y hy => by unfold LkS at hy; omega))).tr (cC.mn (fun y hy => by omega))
      refine go_c0 ?_
      refine go_aload_n (q := 0) (i := 0) rfl rfl dX11_hours_61 ?_
      refine go_getR lf11_47 rfl hX.o hX.r5 dX11_hours_62 ?_
      refine go_getI lf11_137 rfl hX.w5.o dX11_hours_65 ?_
      rw [show gI m4 15 0 = hrN P (-1) P.se j r 104 from (gw_h (m := m4) (g := 15)).trans (hc4.s (by omega) (by omega))]
      refine go_iret rfl ⟨Nat.zero_le _, Nat.zero_le _⟩ dX11_hours_68 ?_
      have e : huS P r (nI j) = (hrN P (-1) P.se j r 104, some (hrN P (-1) P.se j r)) := by simp only [huS, hn, h0, i10, reduceIte, nI_clamp (show j < 2 ^ 31 by omega)]
      rw [e]
      exact ⟨rfl, (cK.mn (fun y hy => by unfold DnA LkS; omega)).tr (cAll.mn (fun y hy => by unfold DnA LkS; omega)), hc4, KpC.of hx30 hs30 hp1 hp2 k1 k2 k3 k4 (fun y a b => cAll.at (by omega))⟩
set_option maxRecDepth 100000 in
set_option maxHeartbeats 8000000 in
theorem ex_hours {m : Me} {P : Pl} {lv : Nat} (hx : Wf12 m.1 (gR m)) (hm : MdC m P lv) (ok : PlOk P) (hps : PsM m) {n : Int32} : Ev mX12_hours [.ref 274, .int n] m (fun o m' => o = some (.int (huS P (cp 105 (gI m 315) (gI m 316)) n).1) ∧ DnM m m' (huS P (cp 105 (gI m 315) (gI m 316)) n).2) := by
  refine ⟨plmX12_hours, nle rfl, ?_⟩
  have hw8 := ok.1
  have hr5 := ok.2.1
  have hlv := hm.lv
  have hh4 := ok.2.2.1
  have hu6 := ok.2.2.2.1
  obtain ⟨u, hu30, hu1⟩ := hps
  have hx0 := hx
  rcases in_c n (N := 48) (by decide) with hn | ⟨j, hj, rfl, hn⟩
  · skip
    refine go_iload_n (q := 1) (i := 1) rfl rfl dX12_hours_0 ?_
    refine go_iconst (v := nI 0) (by decide) dX12_hours_1 ?_
    refine go_bipush (v := nI 48) (by decide) dX12_hours_2 ?_
    refine go_callS okmX12_in lmX12_361 ⟨nle rfl, nle rfl⟩ (ex_in) npmX12_in rfl (nle rfl) ⟨nle rfl, nle rfl⟩ dX12_hours_4 ?_
    rintro _ mz ⟨rfl, hz⟩
    subst mz
    rw [hn]
    refine go_c1 ?_
    refine gz_ne (by omega) (tgt := 12) dX12_hours_7 (by decide) (fun h7 => by exfalso; omega) (fun h7 => ?_)
    refine go_iconst (v := -1) (by decide) dX12_hours_10 ?_
    refine go_iret rfl ⟨Nat.zero_le _, Nat.zero_le _⟩ dX12_hours_11 ?_
    have e : huS P (cp 105 (gI m 315) (gI m 316)) n = (-1, none) := by simp only [huS, hn, reduceIte]
    rw [e]
    exact ⟨rfl, RfK.rf⟩
  · skip
    by_cases hj0 : j = 0
    · skip
      subst hj0
      refine go_iload_n (q := 1) (i := 1) rfl rfl dX12_hours_0 ?_
      refine go_iconst (v := nI 0) (by decide) dX12_hours_1 ?_
      refine go_bipush (v := nI 48) (by decide) dX12_hours_2 ?_
      refine go_callS okmX12_in lmX12_361 ⟨nle rfl, nle rfl⟩ (ex_in) npmX12_in rfl (nle rfl) ⟨nle rfl, nle rfl⟩ dX12_hours_4 ?_
      rintro _ mz ⟨rfl, hz⟩
      subst mz
      rw [hn]
      refine go_c1 ?_
      refine gz_ne (by omega) (tgt := 12) dX12_hours_7 (by decide) (fun h7 => ?_) (fun h7 => by exfalso; omega)
      refine go_iload_n (q := 1) (i := 1) rfl rfl dX12_hours_12 ?_
      refine gz_ne (by omega) (tgt := 24) dX12_hours_13 (by decide) (fun h13 => by exfalso; omega) (fun h13 => ?_)
      refine go_aload_n (q := 0) (i := 0) rfl rfl dX12_hours_16 ?_
      refine go_getR lf12_140 rfl hx.o hx.r58 dX12_hours_17 ?_
      refine go_bipush (v := nI 104) (by decide) dX12_hours_20 ?_
      refine go_iald (j := 104) hx.i58 (by omega) (by first | decide | omega) rfl dX12_hours_22 ?_
      rw [show gI m 315 104 = (cp 105 (gI m 315) (gI m 316)) 104 from (cp_in (by decide)).symm]
      refine go_iret rfl ⟨Nat.zero_le _, Nat.zero_le _⟩ dX12_hours_23 ?_
      have e : huS P (cp 105 (gI m 315) (gI m 316)) (nI 0) = ((cp 105 (gI m 315) (gI m 316)) 104, none) := by simp only [huS, hn, i10, reduceIte]
      rw [e]
      exact ⟨rfl, RfK.rf⟩
    · skip
      have h0 : (nI j = nI 0) = False := nI_ne (by omega) (by omega) hj0
      refine go_iload_n (q := 1) (i := 1) rfl rfl dX12_hours_0 ?_
      refine go_iconst (v := nI 0) (by decide) dX12_hours_1 ?_
      refine go_bipush (v := nI 48) (by decide) dX12_hours_2 ?_
      refine go_callS okmX12_in lmX12_361 ⟨nle rfl, nle rfl⟩ (ex_in) npmX12_in rfl (nle rfl) ⟨nle rfl, nle rfl⟩ dX12_hours_4 ?_
      rintro _ mz ⟨rfl, hz⟩
      subst mz
      rw [hn]
      refine go_c1 ?_
      refine gz_ne (by omega) (tgt := 12) dX12_hours_7 (by decide) (fun h7 => ?_) (fun h7 => by exfalso; omega)
      refine go_iload_n (q := 1) (i := 1) rfl rfl dX12_hours_12 ?_
      refine gz_ne (by omega) (tgt := 24) dX12_hours_13 (by decide) (fun h13 => ?_) (fun h13 => by exfalso; omega)
      refine go_aload_n (q := 0) (i := 0) rfl rfl dX12_hours_24 ?_
      refine go_callV okmX12_copies lmX12_413 ⟨nle rfl, nle rfl⟩ hx.o ⟨by decide, rfl⟩ (ex_copies hx hm) npmX12_copies rfl (nle rfl) ⟨nle rfl, nle rfl⟩ dX12_hours_25 ?_
      rintro _ m1 ⟨rfl, c1, e1, s1, l1, -⟩
      have hx := c1.wf hx
      have hm := c1.md hm
      refine go_c0 ?_
      refine go_aload_n (q := 0) (i := 0) rfl rfl dX12_hours_28 ?_
      refine go_iload_n (q := 1) (i := 1) rfl rfl dX12_hours_29 ?_
      refine go_callV okmX12_goes lmX12_438 ⟨nle rfl, nle rfl⟩ hx.o ⟨by decide, rfl⟩ (ex_goes hx hm ok (by omega)) npmX12_goes rfl (nle rfl) ⟨nle rfl, nle rfl⟩ dX12_hours_30 ?_
      rintro _ m2 ⟨rfl, cB, e2⟩
      rw [s1, l1, e1] at e2
      have c2 := c1.tr cB.1
      have hx := cB.1.wf hx
      have hm := cB.1.md hm
      refine go_c0 ?_
      refine go_aload_n (q := 0) (i := 0) rfl rfl dX12_hours_33 ?_
      refine go_callV okmX12_records lmX12_435 ⟨nle rfl, nle rfl⟩ hx.o ⟨by decide, rfl⟩ (ex_records hx hu30 ((c2.2 63 (by decide) (by decide) (by decide)).trans hu1)) npmX12_records rfl (nle rfl) ⟨nle rfl, nle rfl⟩ dX12_hours_34 ?_
      rintro _ mR ⟨rfl, cR1, cR2, cR3, cR4⟩
      have hD : DnM m mR (some (hrN P (-1) P.se j (cp 105 (gI m 315) (gI m 316)))) := DnM.of c2 cR1 cR2 cR3 cR4 (fun q hq => by rw [e2])
      have hx := CX12 cR1 hx
      refine go_c0 ?_
      refine go_aload_n (q := 0) (i := 0) rfl rfl dX12_hours_37 ?_
      refine go_getR lf12_140 rfl hx.o hx.r58 dX12_hours_38 ?_
      refine go_bipush (v := nI 104) (by decide) dX12_hours_41 ?_
      refine go_iald (j := 104) hx.i58 (by omega) (by first | decide | omega) rfl dX12_hours_43 ?_
      rw [cR3 104 (by omega), e2]
      refine go_iret rfl ⟨Nat.zero_le _, Nat.zero_le _⟩ dX12_hours_44 ?_
      have e : huS P (cp 105 (gI m 315) (gI m 316)) (nI j) = (hrN P (-1) P.se j (cp 105 (gI m 315) (gI m 316)) 104, some (hrN P (-1) P.se j (cp 105 (gI m 315) (gI m 316)))) := by simp only [huS, hn, h0, i10, reduceIte, nI_clamp (show j < 2 ^ 31 by omega)]
      rw [e]
      exact ⟨rfl, hD⟩
