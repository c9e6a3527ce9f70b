set_option maxRecDepth 100000 in
set_option maxHeartbeats 8000000 in
theorem ev_hid {m : Me} {pl dr M : Nat} {P : Pl} {r : Nat → Int32} (hX : CX m.1 (gR m) pl dr) (hP : PlC m pl P) (ok : PlOk P) (hM : M < 2 ^ 18) (hr : RoOk P M r) (hc : CR P (gw m 15) r) {x y n th : Int32} : Ev mX11_hid [.ref 0, .int x, .int y, .int n, .int th] m (fun o m' => o = some (.int (hidS P r x y n th)) ∧ Ch (LkS pl) m m') := by
  refine ⟨plmX11_hid, nle rfl, ?_⟩
  have hw8 := ok.1
  have hr5 := ok.2.1
  have hpd := hX.pd
  have hh4 := ok.2.2.1
  have hu6 := ok.2.2.2.1
  rcases ce_c ok x y with ⟨hca, hic⟩ | ⟨a, b, ha, hb, rfl, rfl, hca, hic⟩
  · skip
    refine go_aload_n (q := 0) (i := 0) rfl rfl dX11_hid_0 ?_
    refine go_getR lf11_86 rfl hX.o hX.rp dX11_hid_1 ?_
    refine go_iload_n (q := 1) (i := 1) rfl rfl dX11_hid_4 ?_
    refine go_iload_n (q := 2) (i := 2) rfl rfl dX11_hid_5 ?_
    refine go_callV okmX7_cellAt lmX11_126 ⟨nle rfl, nle rfl⟩ hX.wp.o ⟨by decide, rfl⟩ (ev_cellAt hX.wp) npmX7_cellAt rfl (nle rfl) ⟨nle rfl, nle rfl⟩ dX11_hid_6 ?_
    rintro _ mz ⟨rfl, hz⟩
    subst mz
    rw [hP.wd, hP.rw, show caS (nI P.wd) (nI P.rw) _ _ = _ from hca]
    refine go_c1 ?_
    refine go_istore (i := 5) dX11_hid_9 (nle rfl) (nle rfl) ?_
    refine go_iload (i := 5) rfl dX11_hid_11 ?_
    refine go_if_lt (tgt := 43) dX11_hid_13 (by decide) (fun h13 => ?_) (fun h13 => by exfalso; exact h13 (by decide))
    refine go_iconst (v := -1) (by decide) dX11_hid_43 ?_
    refine go_iret rfl ⟨Nat.zero_le _, Nat.zero_le _⟩ dX11_hid_44 ?_
    refine ⟨?_, Ch.rf⟩
    simp only [hidS, hca, i10, reduceIte, cneg]
  · skip
    rcases in_c n (N := 72) (by decide) with hn | ⟨j, hj, rfl, hn⟩
    · skip
      refine go_aload_n (q := 0) (i := 0) rfl rfl dX11_hid_0 ?_
      refine go_getR lf11_86 rfl hX.o hX.rp dX11_hid_1 ?_
      refine go_iload_n (q := 1) (i := 1) rfl rfl dX11_hid_4 ?_
      refine go_iload_n (q := 2) (i := 2) rfl rfl dX11_hid_5 ?_
      refine go_callV okmX7_cellAt lmX11_126 ⟨nle rfl, nle rfl⟩ hX.wp.o ⟨by decide, rfl⟩ (ev_cellAt hX.wp) npmX7_cellAt rfl (nle rfl) ⟨nle rfl, nle rfl⟩ dX11_hid_6 ?_
      rintro _ mz ⟨rfl, hz⟩
      subst mz
      rw [hP.wd, hP.rw, show caS (nI P.wd) (nI P.rw) _ _ = _ from hca]
      refine go_c1 ?_
      refine go_istore (i := 5) dX11_hid_9 (nle rfl) (nle rfl) ?_
      refine go_iload (i := 5) rfl dX11_hid_11 ?_
      refine gz_lt (by omega) (tgt := 43) dX11_hid_13 (by decide) (fun h13 => by exfalso; omega) (fun h13 => ?_)
      refine go_iload (i := 5) rfl dX11_hid_16 ?_
      refine go_bipush (v := nI 40) (by decide) dX11_hid_18 ?_
      refine gn_ge (by omega) (by omega) (tgt := 43) dX11_hid_20 (by decide) (fun h20 => by exfalso; omega) (fun h20 => ?_)
      refine go_iload_n (q := 3) (i := 3) rfl rfl dX11_hid_23 ?_
      refine go_iconst (v := nI 1) (by decide) dX11_hid_24 ?_
      refine go_icmp_lt (tgt := 43) dX11_hid_25 (by decide) (fun h25 => ?_) (fun h25 => ?_)
      · skip
        refine go_iconst (v := -1) (by decide) dX11_hid_43 ?_
        refine go_iret rfl ⟨Nat.zero_le _, Nat.zero_le _⟩ dX11_hid_44 ?_
        refine ⟨?_, Ch.rf⟩
        simp only [hidS, hca, in1_n hn, i10, reduceIte, cpos (show 8 * b + a < 2 ^ 31 by omega)]
      · skip
        refine go_iload_n (q := 3) (i := 3) rfl rfl dX11_hid_28 ?_
        refine go_callS okmX11_isAhead lmX11_219 ⟨nle rfl, nle rfl⟩ (ev_isAhead) npmX11_isAhead rfl (nle rfl) ⟨nle rfl, nle rfl⟩ dX11_hid_29 ?_
        rintro _ mz ⟨rfl, hz⟩
        subst mz
        rw [ah_in, hn]
        refine go_c1 ?_
        refine gz_eq (by omega) (tgt := 43) dX11_hid_32 (by decide) (fun h32 => ?_) (fun h32 => by exfalso; omega)
        refine go_iconst (v := -1) (by decide) dX11_hid_43 ?_
        refine go_iret rfl ⟨Nat.zero_le _, Nat.zero_le _⟩ dX11_hid_44 ?_
        refine ⟨?_, Ch.rf⟩
        simp only [hidS, hca, in1_n hn, i10, reduceIte, cpos (show 8 * b + a < 2 ^ 31 by omega)]
    · skip
      rcases (show j = 0 ∨ 1 ≤ j by omega) with rfl | hj1
      · skip
        refine go_aload_n (q := 0) (i := 0) rfl rfl dX11_hid_0 ?_
        refine go_getR lf11_86 rfl hX.o hX.rp dX11_hid_1 ?_
        refine go_iload_n (q := 1) (i := 1) rfl rfl dX11_hid_4 ?_
        refine go_iload_n (q := 2) (i := 2) rfl rfl dX11_hid_5 ?_
        refine go_callV okmX7_cellAt lmX11_126 ⟨nle rfl, nle rfl⟩ hX.wp.o ⟨by decide, rfl⟩ (ev_cellAt hX.wp) npmX7_cellAt rfl (nle rfl) ⟨nle rfl, nle rfl⟩ dX11_hid_6 ?_
        rintro _ mz ⟨rfl, hz⟩
        subst mz
        rw [hP.wd, hP.rw, show caS (nI P.wd) (nI P.rw) _ _ = _ from hca]
        refine go_c1 ?_
        refine go_istore (i := 5) dX11_hid_9 (nle rfl) (nle rfl) ?_
        refine go_iload (i := 5) rfl dX11_hid_11 ?_
        refine gz_lt (by omega) (tgt := 43) dX11_hid_13 (by decide) (fun h13 => by exfalso; omega) (fun h13 => ?_)
        refine go_iload (i := 5) rfl dX11_hid_16 ?_
        refine go_bipush (v := nI 40) (by decide) dX11_hid_18 ?_
        refine gn_ge (by omega) (by omega) (tgt := 43) dX11_hid_20 (by decide) (fun h20 => by exfalso; omega) (fun h20 => ?_)
        refine go_iload_n (q := 3) (i := 3) rfl rfl dX11_hid_23 ?_
        refine go_iconst (v := nI 1) (by decide) dX11_hid_24 ?_
        refine gn_lt (by omega) (by omega) (tgt := 43) dX11_hid_25 (by decide) (fun h25 => ?_) (fun h25 => by exfalso; omega)
        refine go_iconst (v := -1) (by decide) dX11_hid_43 ?_
        refine go_iret rfl ⟨Nat.zero_le _, Nat.zero_le _⟩ dX11_hid_44 ?_
        refine ⟨?_, Ch.rf⟩
        simp only [hidS, hca, show inS (nI 0) (nI 1) (nI 72) = nI 0 from by decide, i10, reduceIte, cpos (show 8 * b + a < 2 ^ 31 by omega)]
      · skip
        rcases in_c th (N := 99) (by decide) with hth | ⟨t, ht, rfl, hth⟩
        · skip
          refine go_aload_n (q := 0) (i := 0) rfl rfl dX11_hid_0 ?_
          refine go_getR lf11_86 rfl hX.o hX.rp dX11_hid_1 ?_
          refine go_iload_n (q := 1) (i := 1) rfl rfl dX11_hid_4 ?_
          refine go_iload_n (q := 2) (i := 2) rfl rfl dX11_hid_5 ?_
          refine go_callV okmX7_cellAt lmX11_126 ⟨nle rfl, nle rfl⟩ hX.wp.o ⟨by decide, rfl⟩ (ev_cellAt hX.wp) npmX7_cellAt rfl (nle rfl) ⟨nle rfl, nle rfl⟩ dX11_hid_6 ?_
          rintro _ mz ⟨rfl, hz⟩
          subst mz
          rw [hP.wd, hP.rw, show caS (nI P.wd) (nI P.rw) _ _ = _ from hca]
          refine go_c1 ?_
          refine go_istore (i := 5) dX11_hid_9 (nle rfl) (nle rfl) ?_
          refine go_iload (i := 5) rfl dX11_hid_11 ?_
          refine gz_lt (by omega) (tgt := 43) dX11_hid_13 (by decide) (fun h13 => by exfalso; omega) (fun h13 => ?_)
          refine go_iload (i := 5) rfl dX11_hid_16 ?_
          refine go_bipush (v := nI 40) (by decide) dX11_hid_18 ?_
          refine gn_ge (by omega) (by omega) (tgt := 43) dX11_hid_20 (by decide) (fun h20 => by exfalso; omega) (fun h20 => ?_)
          refine go_iload_n (q := 3) (i := 3) rfl rfl dX11_hid_23 ?_
          refine go_iconst (v := nI 1) (by decide) dX11_hid_24 ?_
          refine gn_lt (by omega) (by omega) (tgt := 43) dX11_hid_25 (by decide) (fun h25 => by exfalso; omega) (fun h25 => ?_)
          refine go_iload_n (q := 3) (i := 3) rfl rfl dX11_hid_28 ?_
          refine go_callS okmX11_isAhead lmX11_219 ⟨nle rfl, nle rfl⟩ (ev_isAhead) npmX11_isAhead rfl (nle rfl) ⟨nle rfl, nle rfl⟩ dX11_hid_29 ?_
          rintro _ mz ⟨rfl, hz⟩
          subst mz
          rw [ah_in, hn]
          refine go_c1 ?_
          refine gz_eq (by omega) (tgt := 43) dX11_hid_32 (by decide) (fun h32 => by exfalso; omega) (fun h32 => ?_)
          refine go_iload (i := 4) rfl dX11_hid_35 ?_
          refine go_callS okmX11_isThick lmX11_235 ⟨nle rfl, nle rfl⟩ (ev_isThick) npmX11_isThick rfl (nle rfl) ⟨nle rfl, nle rfl⟩ dX11_hid_37 ?_
          rintro _ mz ⟨rfl, hz⟩
          subst mz
          rw [th_in, hth]
          refine go_c1 ?_
          refine gz_ne (by omega) (tgt := 45) dX11_hid_40 (by decide) (fun h40 => by exfalso; omega) (fun h40 => ?_)
          refine go_iconst (v := -1) (by decide) dX11_hid_43 ?_
          refine go_iret rfl ⟨Nat.zero_le _, Nat.zero_le _⟩ dX11_hid_44 ?_
          refine ⟨?_, Ch.rf⟩
          simp only [hidS, hca, in1_j hj1 hj (by decide), hth, i10, reduceIte, cpos (show 8 * b + a < 2 ^ 31 by omega)]
        · skip
          have key : ∀ i, i ≤ j → ∀ mi : Me, Ch (LkS pl) m mi → CR P (gw mi 21) (hrN P (-1) P.se i r) → Go mX11_hid (fun o m' => o = some (.int (hidS P r (nI a) (nI b) (nI j) (nI t))) ∧ Ch (LkS pl) m m') 62 [some (.ref 0), some (.int (nI a)), some (.int (nI b)), some (.int (nI j)), some (.int (nI t)), some (.int (nI (8 * b + a))), some (.int (nI (cnt (fun i => nI t ≤ hrN P (-1) P.se i r (8 * b + a)) i))), some (.int (nI i))] [] mi 0 0 := by
            refine loop_up j ?_ ?_
            · intro mi c1 hci
              have hX0 := hX
              have hX := CX.to c1 hX
              have hP := hP.lk hX0 c1
              have hcl := cnt_le (p := (fun i => nI t ≤ hrN P (-1) P.se i r (8 * b + a))) j
              refine go_iload (i := 7) rfl dX11_hid_62 ?_
              refine go_iload_n (q := 3) (i := 3) rfl rfl dX11_hid_64 ?_
              refine gn_ge (by omega) (by omega) (tgt := 115) dX11_hid_65 (by decide) (fun h65 => ?_) (fun h65 => by exfalso; omega)
              refine go_iload (i := 6) rfl dX11_hid_115 ?_
              refine go_iret rfl ⟨Nat.zero_le _, Nat.zero_le _⟩ dX11_hid_117 ?_
              refine ⟨?_, c1⟩
              simp only [hidS, hca, in1_j hj1 hj (by decide), hth, i10, reduceIte, cpos (show 8 * b + a < 2 ^ 31 by omega), nI_clamp (show 8 * b + a < 2 ^ 31 by omega), nI_clamp (show j < 2 ^ 31 by omega)]
            · intro i hi ih mi c1 hci
              have hX0 := hX
              have hX := CX.to c1 hX
              have hP := hP.lk hX0 c1
              have hcl := cnt_le (p := (fun i => nI t ≤ hrN P (-1) P.se i r (8 * b + a))) i
              refine go_iload (i := 7) rfl dX11_hid_62 ?_
              refine go_iload_n (q := 3) (i := 3) rfl rfl dX11_hid_64 ?_
              refine gn_ge (by omega) (by omega) (tgt := 115) dX11_hid_65 (by decide) (fun h65 => by exfalso; omega) (fun h65 => ?_)
              refine go_aload_n (q := 0) (i := 0) rfl rfl dX11_hid_68 ?_
              refine go_getR lf11_51 rfl hX.o hX.r6 dX11_hid_69 ?_
              refine go_getR lf11_130 rfl hX.w6.o hX.w6.r1 dX11_hid_72 ?_
              refine go_iload (i := 5) rfl dX11_hid_75 ?_
              refine go_iald (j := (8 * b + a)) hX.w6.i1 (by omega) (by first | decide | omega) rfl dX11_hid_77 ?_
              rw [show gI mi (21 + 1) (8 * b + a) = _ from (gw_f (by omega)).trans (hci.f (by omega))]
              refine go_iload (i := 4) rfl dX11_hid_78 ?_
              refine go_icmp_lt (tgt := 86) dX11_hid_80 (by decide) (fun h80 => ?_) (fun h80 => ?_)
              · skip
                refine go_aload_n (q := 0) (i := 0) rfl rfl dX11_hid_86 ?_
                refine go_getR lf11_40 rfl hX.o hX.r4 dX11_hid_87 ?_
                refine go_aload_n (q := 0) (i := 0) rfl rfl dX11_hid_90 ?_
                refine go_getR lf11_86 rfl hX.o hX.rp dX11_hid_91 ?_
                refine go_aload_n (q := 0) (i := 0) rfl rfl dX11_hid_94 ?_
                refine go_getR lf11_51 rfl hX.o hX.r6 dX11_hid_95 ?_
                refine go_aload_n (q := 0) (i := 0) rfl rfl dX11_hid_98 ?_
                refine go_getR lf11_86 rfl hX.o hX.rp dX11_hid_99 ?_
                refine go_getI lf11_208 rfl hX.wp.o dX11_hid_102 ?_
                rw [hP.se]
                refine go_iconst (v := -1) (by decide) dX11_hid_105 ?_
                refine go_callV okmX8_passHour lmX11_238 ⟨nle rfl, nle rfl⟩ hX.w4.o ⟨by decide, rfl⟩ (ev_hour (M := M + i) (se := P.se) (lk := -1) hX.w4 hX.wp hX.w6 hP ok (by omega) (by omega) (by omega) (by omega) (hrN_ok ok hr i (by omega)) hci) npmX8_passHour rfl (nle rfl) ⟨nle rfl, nle rfl⟩ dX11_hid_106 ?_
                rintro _ m2 ⟨rfl, c2, h2⟩
                have c2 : Ch (LkS pl) mi m2 := c2.mn (fun x hx => by unfold LkS; omega)
                refine go_c0 ?_
                refine gn_inc (i := 7) (a := i) (q := 1) rfl dX11_hid_109 (nle rfl) rfl ?_
                refine go_goto (tgt := 62) dX11_hid_112 (by decide) ?_
                rw [show cnt (fun i => nI t ≤ hrN P (-1) P.se i r (8 * b + a)) i = cnt (fun i => nI t ≤ hrN P (-1) P.se i r (8 * b + a)) (i + 1) from (cnt_f (p := (fun i => nI t ≤ hrN P (-1) P.se i r (8 * b + a))) (Int32.not_le.mpr h80)).symm]
                exact ih _ (c1.tr c2) h2
              · skip
                refine gn_inc (i := 6) (a := cnt (fun i => nI t ≤ hrN P (-1) P.se i r (8 * b + a)) i) (q := 1) rfl dX11_hid_83 (nle rfl) rfl ?_
                refine go_aload_n (q := 0) (i := 0) rfl rfl dX11_hid_86 ?_
                refine go_getR lf11_40 rfl hX.o hX.r4 dX11_hid_87 ?_
                refine go_aload_n (q := 0) (i := 0) rfl rfl dX11_hid_90 ?_
                refine go_getR lf11_86 rfl hX.o hX.rp dX11_hid_91 ?_
                refine go_aload_n (q := 0) (i := 0) rfl rfl dX11_hid_94 ?_
                refine go_getR lf11_51 rfl hX.o hX.r6 dX11_hid_95 ?_
                refine go_aload_n (q := 0) (i := 0) rfl rfl dX11_hid_98 ?_
                refine go_getR lf11_86 rfl hX.o hX.rp dX11_hid_99 ?_
                refine go_getI lf11_208 rfl hX.wp.o dX11_hid_102 ?_
                rw [hP.se]
                refine go_iconst (v := -1) (by decide) dX11_hid_105 ?_
                refine go_callV okmX8_passHour lmX11_238 ⟨nle rfl, nle rfl⟩ hX.w4.o ⟨by decide, rfl⟩ (ev_hour (M := M + i) (se := P.se) (lk := -1) hX.w4 hX.wp hX.w6 hP ok (by omega) (by omega) (by omega) (by omega) (hrN_ok ok hr i (by omega)) hci) npmX8_passHour rfl (nle rfl) ⟨nle rfl, nle rfl⟩ dX11_hid_106 ?_
                rintro _ m2 ⟨rfl, c2, h2⟩
                have c2 : Ch (LkS pl) mi m2 := c2.mn (fun x hx => by unfold LkS; omega)
                refine go_c0 ?_
                refine gn_inc (i := 7) (a := i) (q := 1) rfl dX11_hid_109 (nle rfl) rfl ?_
                refine go_goto (tgt := 62) dX11_hid_112 (by decide) ?_
                rw [show cnt (fun i => nI t ≤ hrN P (-1) P.se i r (8 * b + a)) i + 1 = cnt (fun i => nI t ≤ hrN P (-1) P.se i r (8 * b + a)) (i + 1) from (cnt_t (p := (fun i => nI t ≤ hrN P (-1) P.se i r (8 * b + a))) (Int32.not_lt.mp h80)).symm]
                exact ih _ (c1.tr c2) h2
          refine go_aload_n (q := 0) (i := 0) rfl rfl dX11_hid_0 ?_
          refine go_getR lf11_86 rfl hX.o hX.rp dX11_hid_1 ?_
          refine go_iload_n (q := 1) (i := 1) rfl rfl dX11_hid_4 ?_
          refine go_iload_n (q := 2) (i := 2) rfl rfl dX11_hid_5 ?_
          refine go_callV okmX7_cellAt lmX11_126 ⟨nle rfl, nle rfl⟩ hX.wp.o ⟨by decide, rfl⟩ (ev_cellAt hX.wp) npmX7_cellAt rfl (nle rfl) ⟨nle rfl, nle rfl⟩ dX11_hid_6 ?_
          rintro _ mz ⟨rfl, hz⟩
          subst mz
          rw [hP.wd, hP.rw, show caS (nI P.wd) (nI P.rw) _ _ = _ from hca]
          refine go_c1 ?_
          refine go_istore (i := 5) dX11_hid_9 (nle rfl) (nle rfl) ?_
          refine go_iload (i := 5) rfl dX11_hid_11 ?_
          refine gz_lt (by omega) (tgt := 43) dX11_hid_13 (by decide) (fun h13 => by exfalso; omega) (fun h13 => ?_)
          refine go_iload (i := 5) rfl dX11_hid_16 ?_
          refine go_bipush (v := nI 40) (by decide) dX11_hid_18 ?_
          refine gn_ge (by omega) (by omega) (tgt := 43) dX11_hid_20 (by decide) (fun h20 => by exfalso; omega) (fun h20 => ?_)
          refine go_iload_n (q := 3) (i := 3) rfl rfl dX11_hid_23 ?_
          refine go_iconst (v := nI 1) (by decide) dX11_hid_24 ?_
          refine gn_lt (by omega) (by omega) (tgt := 43) dX11_hid_25 (by decide) (fun h25 => by exfalso; omega) (fun h25 => ?_)
          refine go_iload_n (q := 3) (i := 3) rfl rfl dX11_hid_28 ?_
          refine go_callS okmX11_isAhead lmX11_219 ⟨nle rfl, nle rfl⟩ (ev_isAhead) npmX11_isAhead rfl (nle rfl) ⟨nle rfl, nle rfl⟩ dX11_hid_29 ?_
          rintro _ mz ⟨rfl, hz⟩
          subst mz
          rw [ah_in, hn]
          refine go_c1 ?_
          refine gz_eq (by omega) (tgt := 43) dX11_hid_32 (by decide) (fun h32 => by exfalso; omega) (fun h32 => ?_)
          refine go_iload (i := 4) rfl dX11_hid_35 ?_
          refine go_callS okmX11_isThick lmX11_235 ⟨nle rfl, nle rfl⟩ (ev_isThick) npmX11_isThick rfl (nle rfl) ⟨nle rfl, nle rfl⟩ dX11_hid_37 ?_
          rintro _ mz ⟨rfl, hz⟩
          subst mz
          rw [th_in, hth]
          refine go_c1 ?_
          refine gz_ne (by omega) (tgt := 45) dX11_hid_40 (by decide) (fun h40 => ?_) (fun h40 => by exfalso; omega)
          refine go_iconst (v := nI 0) (by decide) dX11_hid_45 ?_
          refine go_istore (i := 6) dX11_hid_46 (nle rfl) (nle rfl) ?_
          refine go_aload_n (q := 0) (i := 0) rfl rfl dX11_hid_48 ?_
          refine go_getR lf11_51 rfl hX.o hX.r6 dX11_hid_49 ?_
          refine go_aload_n (q := 0) (i := 0) rfl rfl dX11_hid_52 ?_
          refine go_getR lf11_47 rfl hX.o hX.r5 dX11_hid_53 ?_
          refine go_callV okmX1_copyFrom lmX11_205 ⟨nle rfl, nle rfl⟩ hX.w6.o ⟨by decide, rfl⟩ (ev_copyFrom hX.w6 hX.w5 (by omega)) npmX1_copyFrom rfl (nle rfl) ⟨nle rfl, nle rfl⟩ dX11_hid_56 ?_
          rintro _ m1 ⟨rfl, cA, eA⟩
          have c1 : Ch (LkS pl) m m1 := cA.mn (fun x hx => by unfold LkS; omega)
          have hP := hP.lk hX c1
          have hX := CX.to c1 hX
          have hc1 : CR P (gw m1 21) r := by rw [eA]; exact hc
          refine go_c0 ?_
          refine go_iconst (v := nI 0) (by decide) dX11_hid_59 ?_
          refine go_istore (i := 7) dX11_hid_60 (nle rfl) (nle rfl) ?_
          exact key 0 (Nat.zero_le _) m1 c1 hc1
set_option maxRecDepth 100000 in
set_option maxHeartbeats 8000000 in
theorem ex_hid {m : Me} {P : Pl} {lv : Nat} (hx : Wf12 m.1 (gR m)) (hm : MdC m P lv) (ok : PlOk P) {x y n th : Int32} : Ev mX12_hid [.ref 274, .int x, .int y, .int n, .int th] m (fun o m' => o = some (.int (hidS P (cp 105 (gI m 315) (gI m 316)) x y n th)) ∧ Mo m m') := by
  refine ⟨plmX12_hid, nle rfl, ?_⟩
  have hw8 := ok.1
  have hr5 := ok.2.1
  have hlv := hm.lv
  have hh4 := ok.2.2.1
  have hu6 := ok.2.2.2.1
  rcases ce_c ok x y with ⟨hca, hic⟩ | ⟨a, b, ha, hb, rfl, rfl, hca, hic⟩
  · skip
    refine go_aload_n (q := 0) (i := 0) rfl rfl dX12_hid_0 ?_
    refine go_iload_n (q := 1) (i := 1) rfl rfl dX12_hid_1 ?_
    refine go_iload_n (q := 2) (i := 2) rfl rfl dX12_hid_2 ?_
    refine go_callV okmX12_isCell lmX12_394 ⟨nle rfl, nle rfl⟩ hx.o ⟨by decide, rfl⟩ (ex_isCell hx hm) npmX12_isCell rfl (nle rfl) ⟨nle rfl, nle rfl⟩ dX12_hid_3 ?_
    rintro _ mz ⟨rfl, hz⟩
    subst mz
    rw [hic]
    refine go_c1 ?_
    refine gz_eq (by omega) (tgt := 27) dX12_hid_6 (by decide) (fun h6 => ?_) (fun h6 => by exfalso; omega)
    refine go_iconst (v := -1) (by decide) dX12_hid_27 ?_
    refine go_iret rfl ⟨Nat.zero_le _, Nat.zero_le _⟩ dX12_hid_28 ?_
    refine ⟨?_, Mo.rf⟩
    simp only [hidS, hca, i10, reduceIte, cneg]
  · skip
    rcases in_c n (N := 72) (by decide) with hn | ⟨j, hj, rfl, hn⟩
    · skip
      refine go_aload_n (q := 0) (i := 0) rfl rfl dX12_hid_0 ?_
      refine go_iload_n (q := 1) (i := 1) rfl rfl dX12_hid_1 ?_
      refine go_iload_n (q := 2) (i := 2) rfl rfl dX12_hid_2 ?_
      refine go_callV okmX12_isCell lmX12_394 ⟨nle rfl, nle rfl⟩ hx.o ⟨by decide, rfl⟩ (ex_isCell hx hm) npmX12_isCell rfl (nle rfl) ⟨nle rfl, nle rfl⟩ dX12_hid_3 ?_
      rintro _ mz ⟨rfl, hz⟩
      subst mz
      rw [hic]
      refine go_c1 ?_
      refine gz_eq (by omega) (tgt := 27) dX12_hid_6 (by decide) (fun h6 => by exfalso; omega) (fun h6 => ?_)
      refine go_iload_n (q := 3) (i := 3) rfl rfl dX12_hid_9 ?_
      refine go_iconst (v := nI 1) (by decide) dX12_hid_10 ?_
      refine go_bipush (v := nI 72) (by decide) dX12_hid_11 ?_
      refine go_callS okmX12_in lmX12_361 ⟨nle rfl, nle rfl⟩ (ex_in) npmX12_in rfl (nle rfl) ⟨nle rfl, nle rfl⟩ dX12_hid_13 ?_
      rintro _ mz ⟨rfl, hz⟩
      subst mz
      rw [in1_n hn]
      refine go_c1 ?_
      refine gz_eq (by omega) (tgt := 27) dX12_hid_16 (by decide) (fun h16 => ?_) (fun h16 => by exfalso; omega)
      refine go_iconst (v := -1) (by decide) dX12_hid_27 ?_
      refine go_iret rfl ⟨Nat.zero_le _, Nat.zero_le _⟩ dX12_hid_28 ?_
      refine ⟨?_, Mo.rf⟩
      simp only [hidS, hca, in1_n hn, i10, reduceIte, cpos (show 8 * b + a < 2 ^ 31 by omega)]
    · skip
      rcases (show j = 0 ∨ 1 ≤ j by omega) with rfl | hj1
      · skip
        refine go_aload_n (q := 0) (i := 0) rfl rfl dX12_hid_0 ?_
        refine go_iload_n (q := 1) (i := 1) rfl rfl dX12_hid_1 ?_
        refine go_iload_n (q := 2) (i := 2) rfl rfl dX12_hid_2 ?_
        refine go_callV okmX12_isCell lmX12_394 ⟨nle rfl, nle rfl⟩ hx.o ⟨by decide, rfl⟩ (ex_isCell hx hm) npmX12_isCell rfl (nle rfl) ⟨nle rfl, nle rfl⟩ dX12_hid_3 ?_
        rintro _ mz ⟨rfl, hz⟩
        subst mz
        rw [hic]
        refine go_c1 ?_
        refine gz_eq (by omega) (tgt := 27) dX12_hid_6 (by decide) (fun h6 => by exfalso; omega) (fun h6 => ?_)
        refine go_iload_n (q := 3) (i := 3) rfl rfl dX12_hid_9 ?_
        refine go_iconst (v := nI 1) (by decide) dX12_hid_10 ?_
        refine go_bipush (v := nI 72) (by decide) dX12_hid_11 ?_
        refine go_callS okmX12_in lmX12_361 ⟨nle rfl, nle rfl⟩ (ex_in) npmX12_in rfl (nle rfl) ⟨nle rfl, nle rfl⟩ dX12_hid_13 ?_
        rintro _ mz ⟨rfl, hz⟩
        subst mz
        rw [show inS (nI 0) (nI 1) (nI 72) = nI 0 from by decide]
        refine go_c1 ?_
        refine gz_eq (by omega) (tgt := 27) dX12_hid_16 (by decide) (fun h16 => ?_) (fun h16 => by exfalso; omega)
        refine go_iconst (v := -1) (by decide) dX12_hid_27 ?_
        refine go_iret rfl ⟨Nat.zero_le _, Nat.zero_le _⟩ dX12_hid_28 ?_
        refine ⟨?_, Mo.rf⟩
        simp only [hidS, hca, show inS (nI 0) (nI 1) (nI 72) = nI 0 from by decide, i10, reduceIte, cpos (show 8 * b + a < 2 ^ 31 by omega)]
      · skip
        rcases in_c th (N := 99) (by decide) with hth | ⟨t, ht, rfl, hth⟩
        · skip
          refine go_aload_n (q := 0) (i := 0) rfl rfl dX12_hid_0 ?_
          refine go_iload_n (q := 1) (i := 1) rfl rfl dX12_hid_1 ?_
          refine go_iload_n (q := 2) (i := 2) rfl rfl dX12_hid_2 ?_
          refine go_callV okmX12_isCell lmX12_394 ⟨nle rfl, nle rfl⟩ hx.o ⟨by decide, rfl⟩ (ex_isCell hx hm) npmX12_isCell rfl (nle rfl) ⟨nle rfl, nle rfl⟩ dX12_hid_3 ?_
          rintro _ mz ⟨rfl, hz⟩
          subst mz
          rw [hic]
          refine go_c1 ?_
          refine gz_eq (by omega) (tgt := 27) dX12_hid_6 (by decide) (fun h6 => by exfalso; omega) (fun h6 => ?_)
          refine go_iload_n (q := 3) (i := 3) rfl rfl dX12_hid_9 ?_
          refine go_iconst (v := nI 1) (by decide) dX12_hid_10 ?_
          refine go_bipush (v := nI 72) (by decide) dX12_hid_11 ?_
          refine go_callS okmX12_in lmX12_361 ⟨nle rfl, nle rfl⟩ (ex_in) npmX12_in rfl (nle rfl) ⟨nle rfl, nle rfl⟩ dX12_hid_13 ?_
          rintro _ mz ⟨rfl, hz⟩
          subst mz
          rw [in1_j hj1 hj (by decide)]
          refine go_c1 ?_
          refine gz_eq (by omega) (tgt := 27) dX12_hid_16 (by decide) (fun h16 => by exfalso; omega) (fun h16 => ?_)
          refine go_iload (i := 4) rfl dX12_hid_19 ?_
          refine go_callS okmX12_isThick lmX12_447 ⟨nle rfl, nle rfl⟩ (ex_isThick) npmX12_isThick rfl (nle rfl) ⟨nle rfl, nle rfl⟩ dX12_hid_21 ?_
          rintro _ mz ⟨rfl, hz⟩
          subst mz
          rw [hth]
          refine go_c1 ?_
          refine gz_ne (by omega) (tgt := 29) dX12_hid_24 (by decide) (fun h24 => by exfalso; omega) (fun h24 => ?_)
          refine go_iconst (v := -1) (by decide) dX12_hid_27 ?_
          refine go_iret rfl ⟨Nat.zero_le _, Nat.zero_le _⟩ dX12_hid_28 ?_
          refine ⟨?_, Mo.rf⟩
          simp only [hidS, hca, in1_j hj1 hj (by decide), hth, i10, reduceIte, cpos (show 8 * b + a < 2 ^ 31 by omega)]
        · skip
          have key : ∀ i, i ≤ j → ∀ mi : Me, Mo m mi → gI mi 316 = hrN P (-1) P.se i (cp 105 (gI m 315) (gI m 316)) → gI mi 274 60 = P.se → gI mi 274 61 = -1 → Go mX12_hid (fun o m' => o = some (.int (hidS P (cp 105 (gI m 315) (gI m 316)) (nI a) (nI b) (nI j) (nI t))) ∧ Mo m m') 39 [some (.ref 274), some (.int (nI a)), some (.int (nI b)), some (.int (nI j)), some (.int (nI t)), some (.int (nI (cnt (fun i => nI t ≤ hrN P (-1) P.se i (cp 105 (gI m 315) (gI m 316)) (8 * b + a)) i))), some (.int (nI i))] [] mi 0 0 := by
            refine loop_up j ?_ ?_
            · intro mi c1 ei si li
              have hx := c1.wf hx
              have hm := c1.md hm
              have hcl := cnt_le (p := (fun i => nI t ≤ hrN P (-1) P.se i (cp 105 (gI m 315) (gI m 316)) (8 * b + a))) j
              refine go_iload (i := 6) rfl dX12_hid_39 ?_
              refine go_iload_n (q := 3) (i := 3) rfl rfl dX12_hid_41 ?_
              refine gn_ge (by omega) (by omega) (tgt := 74) dX12_hid_42 (by decide) (fun h42 => ?_) (fun h42 => by exfalso; omega)
              refine go_iload (i := 5) rfl dX12_hid_74 ?_
              refine go_iret rfl ⟨Nat.zero_le _, Nat.zero_le _⟩ dX12_hid_76 ?_
              refine ⟨?_, c1⟩
              simp only [hidS, hca, in1_j hj1 hj (by decide), hth, i10, reduceIte, cpos (show 8 * b + a < 2 ^ 31 by omega), nI_clamp (show 8 * b + a < 2 ^ 31 by omega), nI_clamp (show j < 2 ^ 31 by omega)]
            · intro i hi ih mi c1 ei si li
              have hx := c1.wf hx
              have hm := c1.md hm
              have hcl := cnt_le (p := (fun i => nI t ≤ hrN P (-1) P.se i (cp 105 (gI m 315) (gI m 316)) (8 * b + a))) i
              refine go_iload (i := 6) rfl dX12_hid_39 ?_
              refine go_iload_n (q := 3) (i := 3) rfl rfl dX12_hid_41 ?_
              refine gn_ge (by omega) (by omega) (tgt := 74) dX12_hid_42 (by decide) (fun h42 => by exfalso; omega) (fun h42 => ?_)
              refine go_aload_n (q := 0) (i := 0) rfl rfl dX12_hid_45 ?_
              refine go_getR lf12_143 rfl hx.o hx.r59 dX12_hid_46 ?_
              refine go_bipush (v := nI 8) (by decide) dX12_hid_49 ?_
              refine go_iload_n (q := 2) (i := 2) rfl rfl dX12_hid_51 ?_
              refine gn_mul dX12_hid_52 ?_
              refine go_iload_n (q := 1) (i := 1) rfl rfl dX12_hid_53 ?_
              refine gn_add dX12_hid_54 ?_
              refine go_iald (j := ((8 * b) + a)) hx.i59 (by omega) (by first | decide | omega) rfl dX12_hid_55 ?_
              rw [ei]
              refine go_iload (i := 4) rfl dX12_hid_56 ?_
              refine go_icmp_lt (tgt := 64) dX12_hid_58 (by decide) (fun h58 => ?_) (fun h58 => ?_)
              · skip
                refine go_aload_n (q := 0) (i := 0) rfl rfl dX12_hid_64 ?_
                refine go_callV okmX12_hourGoes lmX12_410 ⟨nle rfl, nle rfl⟩ hx.o ⟨by decide, rfl⟩ (ex_hourGoes hx hm ok) npmX12_hourGoes rfl (nle rfl) ⟨nle rfl, nle rfl⟩ dX12_hid_65 ?_
                rintro _ m2 ⟨rfl, cB, e2⟩
                rw [ei, si, li] at e2
                refine go_c0 ?_
                refine gn_inc (i := 6) (a := i) (q := 1) rfl dX12_hid_68 (nle rfl) rfl ?_
                refine go_goto (tgt := 39) dX12_hid_71 (by decide) ?_
                rw [show cnt (fun i => nI t ≤ hrN P (-1) P.se i (cp 105 (gI m 315) (gI m 316)) (8 * b + a)) i = cnt (fun i => nI t ≤ hrN P (-1) P.se i (cp 105 (gI m 315) (gI m 316)) (8 * b + a)) (i + 1) from (cnt_f (p := (fun i => nI t ≤ hrN P (-1) P.se i (cp 105 (gI m 315) (gI m 316)) (8 * b + a))) (Int32.not_le.mpr h58)).symm]
                exact ih _ (c1.tr cB.1) e2 (cB.2.1.trans si) (cB.2.2.trans li)
              · skip
                refine gn_inc (i := 5) (a := cnt (fun i => nI t ≤ hrN P (-1) P.se i (cp 105 (gI m 315) (gI m 316)) (8 * b + a)) i) (q := 1) rfl dX12_hid_61 (nle rfl) rfl ?_
                refine go_aload_n (q := 0) (i := 0) rfl rfl dX12_hid_64 ?_
                refine go_callV okmX12_hourGoes lmX12_410 ⟨nle rfl, nle rfl⟩ hx.o ⟨by decide, rfl⟩ (ex_hourGoes hx hm ok) npmX12_hourGoes rfl (nle rfl) ⟨nle rfl, nle rfl⟩ dX12_hid_65 ?_
                rintro _ m2 ⟨rfl, cB, e2⟩
                rw [ei, si, li] at e2
                refine go_c0 ?_
                refine gn_inc (i := 6) (a := i) (q := 1) rfl dX12_hid_68 (nle rfl) rfl ?_
                refine go_goto (tgt := 39) dX12_hid_71 (by decide) ?_
                rw [show cnt (fun i => nI t ≤ hrN P (-1) P.se i (cp 105 (gI m 315) (gI m 316)) (8 * b + a)) i + 1 = cnt (fun i => nI t ≤ hrN P (-1) P.se i (cp 105 (gI m 315) (gI m 316)) (8 * b + a)) (i + 1) from (cnt_t (p := (fun i => nI t ≤ hrN P (-1) P.se i (cp 105 (gI m 315) (gI m 316)) (8 * b + a))) (Int32.not_lt.mp h58)).symm]
                exact ih _ (c1.tr cB.1) e2 (cB.2.1.trans si) (cB.2.2.trans li)
          refine go_aload_n (q := 0) (i := 0) rfl rfl dX12_hid_0 ?_
          refine go_iload_n (q := 1) (i := 1) rfl rfl dX12_hid_1 ?_
          refine go_iload_n (q := 2) (i := 2) rfl rfl dX12_hid_2 ?_
          refine go_callV okmX12_isCell lmX12_394 ⟨nle rfl, nle rfl⟩ hx.o ⟨by decide, rfl⟩ (ex_isCell hx hm) npmX12_isCell rfl (nle rfl) ⟨nle rfl, nle rfl⟩ dX12_hid_3 ?_
          rintro _ mz ⟨rfl, hz⟩
          subst mz
          rw [hic]
          refine go_c1 ?_
          refine gz_eq (by omega) (tgt := 27) dX12_hid_6 (by decide) (fun h6 => by exfalso; omega) (fun h6 => ?_)
          refine go_iload_n (q := 3) (i := 3) rfl rfl dX12_hid_9 ?_
          refine go_iconst (v := nI 1) (by decide) dX12_hid_10 ?_
          refine go_bipush (v := nI 72) (by decide) dX12_hid_11 ?_
          refine go_callS okmX12_in lmX12_361 ⟨nle rfl, nle rfl⟩ (ex_in) npmX12_in rfl (nle rfl) ⟨nle rfl, nle rfl⟩ dX12_hid_13 ?_
          rintro _ mz ⟨rfl, hz⟩
          subst mz
          rw [in1_j hj1 hj (by decide)]
          refine go_c1 ?_
          refine gz_eq (by omega) (tgt := 27) dX12_hid_16 (by decide) (fun h16 => by exfalso; omega) (fun h16 => ?_)
          refine go_iload (i := 4) rfl dX12_hid_19 ?_
          refine go_callS okmX12_isThick lmX12_447 ⟨nle rfl, nle rfl⟩ (ex_isThick) npmX12_isThick rfl (nle rfl) ⟨nle rfl, nle rfl⟩ dX12_hid_21 ?_
          rintro _ mz ⟨rfl, hz⟩
          subst mz
          rw [hth]
          refine go_c1 ?_
          refine gz_ne (by omega) (tgt := 29) dX12_hid_24 (by decide) (fun h24 => ?_) (fun h24 => by exfalso; omega)
          refine go_aload_n (q := 0) (i := 0) rfl rfl dX12_hid_29 ?_
          refine go_callV okmX12_copies lmX12_413 ⟨nle rfl, nle rfl⟩ hx.o ⟨by decide, rfl⟩ (ex_copies hx hm) npmX12_copies rfl (nle rfl) ⟨nle rfl, nle rfl⟩ dX12_hid_30 ?_
          rintro _ m1 ⟨rfl, c1, e1, s1, l1, -⟩
          have hx := c1.wf hx
          have hm := c1.md hm
          refine go_c0 ?_
          refine go_iconst (v := nI 0) (by decide) dX12_hid_33 ?_
          refine go_istore (i := 5) dX12_hid_34 (nle rfl) (nle rfl) ?_
          refine go_iconst (v := nI 0) (by decide) dX12_hid_36 ?_
          refine go_istore (i := 6) dX12_hid_37 (nle rfl) (nle rfl) ?_
          exact key 0 (Nat.zero_le _) m1 c1 e1 s1 l1
noncomputable def windS (P : Pl) (r : Nat → Int32) (n : Int32) : Int32 := if inS n (nI 0) (nI 72) = nI 0 then -1 else wM P (r 104 + n)
noncomputable def usS (P : Pl) (r : Nat → Int32) (u w : Int32) : Int32 := if inS u (nI 0) (nI P.us - nI 1) = nI 0 then -1 else if inS w (nI 0) (nI 4) = nI 0 then -1 else if w = nI 0 then P.uo u.toNatClampNeg else if w = nI 1 then P.uf u.toNatClampNeg else if w = nI 2 then P.ut u.toNatClampNeg else if w = nI 3 then P.uk u.toNatClampNeg else ihS (P.uf u.toNatClampNeg) (P.ut u.toNatClampNeg) (r 104)
theorem in_out {v : Int32} {N : Nat} (hN : N < 2 ^ 31) (h : inS v (nI 0) (nI N) = nI 0) : v.toInt < 0 ∨ (N : Int) < v.toInt := by
  rcases in_n h with q | q
  · left; exact Int32.lt_iff_toInt_lt.mp q
  · right; have := Int32.lt_iff_toInt_lt.mp q; rw [nI_toInt hN] at this; exact this
theorem ih01 (f t h : Int32) : ihS f t h = nI 0 ∨ ihS f t h = nI 1 := by
  unfold ihS
  split
  · exact Or.inl rfl
  · split
    · exact Or.inl rfl
    · exact Or.inr rfl
theorem i3x : (nI 3 = nI 0) = False ∧ (nI 3 = nI 1) = False ∧ (nI 3 = nI 2) = False ∧ (nI 4 = nI 0) = False ∧ (nI 4 = nI 1) = False ∧ (nI 4 = nI 2) = False ∧ (nI 4 = nI 3) = False := by
  simp only [eq_iff_iff, iff_false]; decide
set_option maxRecDepth 100000 in
set_option maxHeartbeats 8000000 in
theorem ev_wind {m : Me} {pl dr M : Nat} {P : Pl} {r : Nat → Int32} (hX : CX m.1 (gR m) pl dr) (hP : PlC m pl P) (ok : PlOk P) (hM : M < 2 ^ 18) (hr : RoOk P M r) (hc : CR P (gw m 15) r) {n : Int32} : Ev mX11_wind [.ref 0, .int n] m (fun o m' => o = some (.int (windS P r n)) ∧ Ch (LkS pl) m m') := by
  refine ⟨plmX11_wind, nle rfl, ?_⟩
  have hw8 := ok.1
  have hr5 := ok.2.1
  have hpd := hX.pd
  rcases in_c n (N := 72) (by decide) with hn | ⟨j, hj, rfl, hn⟩
  · skip
    refine go_iload_n (q := 1) (i := 1) rfl rfl dX11_wind_0 ?_
    refine go_callS okmX11_isAhead lmX11_219 ⟨nle rfl, nle rfl⟩ (ev_isAhead) npmX11_isAhead rfl (nle rfl) ⟨nle rfl, nle rfl⟩ dX11_wind_1 ?_
    rintro _ mz ⟨rfl, hz⟩
    subst mz
    rw [ah_in, hn]
    refine go_c1 ?_
    refine gz_eq (by omega) (tgt := 30) dX11_wind_4 (by decide) (fun h4 => ?_) (fun h4 => by exfalso; omega)
    refine go_iconst (v := -1) (by decide) dX11_wind_30 ?_
    refine go_iret rfl ⟨Nat.zero_le _, Nat.zero_le _⟩ dX11_wind_31 ?_
    refine ⟨?_, Ch.rf⟩
    simp only [windS, hn, i10, reduceIte]
  · skip
    refine go_iload_n (q := 1) (i := 1) rfl rfl dX11_wind_0 ?_
    refine go_callS okmX11_isAhead lmX11_219 ⟨nle rfl, nle rfl⟩ (ev_isAhead) npmX11_isAhead rfl (nle rfl) ⟨nle rfl, nle rfl⟩ dX11_wind_1 ?_
    rintro _ mz ⟨rfl, hz⟩
    subst mz
    rw [ah_in, hn]
    refine go_c1 ?_
    refine gz_eq (by omega) (tgt := 30) dX11_wind_4 (by decide) (fun h4 => by exfalso; omega) (fun h4 => ?_)
    refine go_aload_n (q := 0) (i := 0) rfl rfl dX11_wind_7 ?_
    refine go_getR lf11_40 rfl hX.o hX.r4 dX11_wind_8 ?_
    refine go_aload_n (q := 0) (i := 0) rfl rfl dX11_wind_11 ?_
    refine go_getR lf11_86 rfl hX.o hX.rp dX11_wind_12 ?_
    refine go_aload_n (q := 0) (i := 0) rfl rfl dX11_wind_15 ?_
    refine go_getR lf11_47 rfl hX.o hX.r5 dX11_wind_16 ?_
    refine go_getI lf11_137 rfl hX.w5.o dX11_wind_19 ?_
    rw [show gI m 15 0 = r 104 from (gw_h (m := m) (g := 15)).trans (hc.s (by omega) (by omega))]
    refine go_iload_n (q := 1) (i := 1) rfl rfl dX11_wind_22 ?_
    refine go_iadd dX11_wind_23 ?_
    refine go_callV okmX8_beginHour lmX11_140 ⟨nle rfl, nle rfl⟩ hX.w4.o ⟨by decide, rfl⟩ (ev_beginHour hX.w4 hX.wp hP.lw ok) npmX8_beginHour rfl (nle rfl) ⟨nle rfl, nle rfl⟩ dX11_wind_24 ?_
    rintro _ m2 ⟨rfl, cB, -⟩
    rw [w_eq]
    have c2 : Ch (LkS pl) m m2 := cB.mn (fun x hx => by unfold LkS; omega)
    refine go_c1 ?_
    refine go_goto (tgt := 31) dX11_wind_27 (by decide) ?_
    refine go_iret rfl ⟨Nat.zero_le _, Nat.zero_le _⟩ dX11_wind_31 ?_
    refine ⟨?_, c2⟩
    simp only [windS, hn, i10, reduceIte]
set_option maxRecDepth 100000 in
set_option maxHeartbeats 8000000 in
theorem ex_wind {m : Me} {P : Pl} {lv : Nat} (hx : Wf12 m.1 (gR m)) (hm : MdC m P lv) (ok : PlOk P) {n : Int32} : Ev mX12_wind [.ref 274, .int n] m (fun o m' => o = some (.int (windS P (cp 105 (gI m 315) (gI m 316)) n)) ∧ Mo m m') := by
  refine ⟨plmX12_wind, nle rfl, ?_⟩
  have hw8 := ok.1
  have hr5 := ok.2.1
  have hlv := hm.lv
  rcases in_c n (N := 72) (by decide) with hn | ⟨j, hj, rfl, hn⟩
  · skip
    refine go_iload_n (q := 1) (i := 1) rfl rfl dX12_wind_0 ?_
    refine go_callS okmX12_isLong lmX12_441 ⟨nle rfl, nle rfl⟩ (ex_isLong) npmX12_isLong rfl (nle rfl) ⟨nle rfl, nle rfl⟩ dX12_wind_1 ?_
    rintro _ mz ⟨rfl, hz⟩
    subst mz
    rw [hn]
    refine go_c1 ?_
    refine gz_eq (by omega) (tgt := 23) dX12_wind_4 (by decide) (fun h4 => ?_) (fun h4 => by exfalso; omega)
    refine go_iconst (v := -1) (by decide) dX12_wind_23 ?_
    refine go_iret rfl ⟨Nat.zero_le _, Nat.zero_le _⟩ dX12_wind_24 ?_
    refine ⟨?_, Mo.rf⟩
    simp only [windS, hn, i10, reduceIte]
  · skip
    refine go_iload_n (q := 1) (i := 1) rfl rfl dX12_wind_0 ?_
    refine go_callS okmX12_isLong lmX12_441 ⟨nle rfl, nle rfl⟩ (ex_isLong) npmX12_isLong rfl (nle rfl) ⟨nle rfl, nle rfl⟩ dX12_wind_1 ?_
    rintro _ mz ⟨rfl, hz⟩
    subst mz
    rw [hn]
    refine go_c1 ?_
    refine gz_eq (by omega) (tgt := 23) dX12_wind_4 (by decide) (fun h4 => by exfalso; omega) (fun h4 => ?_)
    refine go_aload_n (q := 0) (i := 0) rfl rfl dX12_wind_7 ?_
    refine go_aload_n (q := 0) (i := 0) rfl rfl dX12_wind_8 ?_
    refine go_getR lf12_140 rfl hx.o hx.r58 dX12_wind_9 ?_
    refine go_bipush (v := nI 104) (by decide) dX12_wind_12 ?_
    refine go_iald (j := 104) hx.i58 (by omega) (by first | decide | omega) rfl dX12_wind_14 ?_
    rw [show gI m 315 104 = (cp 105 (gI m 315) (gI m 316)) 104 from (cp_in (by decide)).symm]
    refine go_iload_n (q := 1) (i := 1) rfl rfl dX12_wind_15 ?_
    refine go_iadd dX12_wind_16 ?_
    refine go_callV okmX12_windIn lmX12_398 ⟨nle rfl, nle rfl⟩ hx.o ⟨by decide, rfl⟩ (ex_windIn hx hm ok) npmX12_windIn rfl (nle rfl) ⟨nle rfl, nle rfl⟩ dX12_wind_17 ?_
    rintro _ m2 ⟨rfl, cB, -⟩
    refine go_c1 ?_
    refine go_goto (tgt := 24) dX12_wind_20 (by decide) ?_
    refine go_iret rfl ⟨Nat.zero_le _, Nat.zero_le _⟩ dX12_wind_24 ?_
    refine ⟨?_, cB.1⟩
    simp only [windS, hn, i10, reduceIte]
set_option maxRecDepth 100000 in
set_option maxHeartbeats 8000000 in
theorem ev_use {m : Me} {pl dr M : Nat} {P : Pl} {r : Nat → Int32} (hX : CX m.1 (gR m) pl dr) (hP : PlC m pl P) (ok : PlOk P) (hM : M < 2 ^ 18) (hr : RoOk P M r) (hc : CR P (gw m 15) r) {u w : Int32} : Ev mX11_use [.ref 0, .int u, .int w] m (fun o m' => o = some (.int (usS P r u w)) ∧ Ch (LkS pl) m m') := by
  refine ⟨plmX11_use, nle rfl, ?_⟩
  have hw8 := ok.1
  have hr5 := ok.2.1
  have hpd := hX.pd
  have hh4 := ok.2.2.1
  have hu6 := ok.2.2.2.1
  rcases hd_c (n := P.us) (by omega) u with hu | ⟨i, hi, rfl, hu⟩
  · skip
    refine go_aload_n (q := 0) (i := 0) rfl rfl dX11_use_0 ?_
    refine go_getR lf11_86 rfl hX.o hX.rp dX11_use_1 ?_
    refine go_iload_n (q := 1) (i := 1) rfl rfl dX11_use_4 ?_
    refine go_callV okmX7_hasUse lmX11_175 ⟨nle rfl, nle rfl⟩ hX.wp.o ⟨by decide, rfl⟩ (ev_hasUse hX.wp) npmX7_hasUse rfl (nle rfl) ⟨nle rfl, nle rfl⟩ dX11_use_5 ?_
    rintro _ mz ⟨rfl, hz⟩
    subst mz
    rw [hP.us, has_in ok.2.2.2.1 (by decide), hu]
    refine go_c1 ?_
    refine gz_ne (by omega) (tgt := 13) dX11_use_8 (by decide) (fun h8 => by exfalso; omega) (fun h8 => ?_)
    refine go_iconst (v := -1) (by decide) dX11_use_11 ?_
    refine go_iret rfl ⟨Nat.zero_le _, Nat.zero_le _⟩ dX11_use_12 ?_
    refine ⟨?_, Ch.rf⟩
    simp only [usS, hu, i10, reduceIte]
  · skip
    have hu2 : hasS (gI m pl 3) (nI 6) (nI i) = nI 1 := by rw [hP.us, has_in ok.2.2.2.1 (by decide), hu]
    rcases in_c w (N := 4) (by decide) with hw | ⟨k, hk, rfl, hw⟩
    · skip
      refine go_aload_n (q := 0) (i := 0) rfl rfl dX11_use_0 ?_
      refine go_getR lf11_86 rfl hX.o hX.rp dX11_use_1 ?_
      refine go_iload_n (q := 1) (i := 1) rfl rfl dX11_use_4 ?_
      refine go_callV okmX7_hasUse lmX11_175 ⟨nle rfl, nle rfl⟩ hX.wp.o ⟨by decide, rfl⟩ (ev_hasUse hX.wp) npmX7_hasUse rfl (nle rfl) ⟨nle rfl, nle rfl⟩ dX11_use_5 ?_
      rintro _ mz ⟨rfl, hz⟩
      subst mz
      rw [hP.us, has_in ok.2.2.2.1 (by decide), hu]
      refine go_c1 ?_
      refine gz_ne (by omega) (tgt := 13) dX11_use_8 (by decide) (fun h8 => ?_) (fun h8 => by exfalso; omega)
      refine go_iload_n (q := 2) (i := 2) rfl rfl dX11_use_13 ?_
      refine go_tswOut (tgt := 112) dX11_use_14 (in_out (by decide) hw) (by decide) ?_
      refine go_iconst (v := -1) (by decide) dX11_use_112 ?_
      refine go_iret rfl ⟨Nat.zero_le _, Nat.zero_le _⟩ dX11_use_113 ?_
      refine ⟨?_, Ch.rf⟩
      simp only [usS, hu, hw, i10, reduceIte]
    · skip
      rcases (show k = 0 ∨ k = 1 ∨ k = 2 ∨ k = 3 ∨ k = 4 by omega) with rfl | rfl | rfl | rfl | rfl
      · skip
        refine go_aload_n (q := 0) (i := 0) rfl rfl dX11_use_0 ?_
        refine go_getR lf11_86 rfl hX.o hX.rp dX11_use_1 ?_
        refine go_iload_n (q := 1) (i := 1) rfl rfl dX11_use_4 ?_
        refine go_callV okmX7_hasUse lmX11_175 ⟨nle rfl, nle rfl⟩ hX.wp.o ⟨by decide, rfl⟩ (ev_hasUse hX.wp) npmX7_hasUse rfl (nle rfl) ⟨nle rfl, nle rfl⟩ dX11_use_5 ?_
        rintro _ mz ⟨rfl, hz⟩
        subst mz
        rw [hP.us, has_in ok.2.2.2.1 (by decide), hu]
        refine go_c1 ?_
        refine gz_ne (by omega) (tgt := 13) dX11_use_8 (by decide) (fun h8 => ?_) (fun h8 => by exfalso; omega)
        refine go_iload_n (q := 2) (i := 2) rfl rfl dX11_use_13 ?_
        refine go_tswIn (off := 34) (tgt := 48) dX11_use_14 (by decide) (by decide) (by decide) (by decide) ?_
        refine go_aload_n (q := 0) (i := 0) rfl rfl dX11_use_48 ?_
        refine go_getR lf11_86 rfl hX.o hX.rp dX11_use_49 ?_
        refine go_getR lf11_178 rfl hX.wp.o hX.wp.r12 dX11_use_52 ?_
        refine go_iload_n (q := 1) (i := 1) rfl rfl dX11_use_55 ?_
        refine go_iald (j := i) hX.wp.i12 (by omega) (by first | decide | omega) rfl dX11_use_56 ?_
        rw [(hP.uu i hi).1]
        refine go_iret rfl ⟨Nat.zero_le _, Nat.zero_le _⟩ dX11_use_57 ?_
        refine ⟨?_, Ch.rf⟩
        simp only [usS, hu, hw, i10, reduceIte, i20, i21, i3x.1, i3x.2.1, i3x.2.2.1, i3x.2.2.2.1, i3x.2.2.2.2.1, i3x.2.2.2.2.2.1, i3x.2.2.2.2.2.2, nI_clamp (show i < 2 ^ 31 by omega)]
      · skip
        refine go_aload_n (q := 0) (i := 0) rfl rfl dX11_use_0 ?_
        refine go_getR lf11_86 rfl hX.o hX.rp dX11_use_1 ?_
        refine go_iload_n (q := 1) (i := 1) rfl rfl dX11_use_4 ?_
        refine go_callV okmX7_hasUse lmX11_175 ⟨nle rfl, nle rfl⟩ hX.wp.o ⟨by decide, rfl⟩ (ev_hasUse hX.wp) npmX7_hasUse rfl (nle rfl) ⟨nle rfl, nle rfl⟩ dX11_use_5 ?_
        rintro _ mz ⟨rfl, hz⟩
        subst mz
        rw [hP.us, has_in ok.2.2.2.1 (by decide), hu]
        refine go_c1 ?_
        refine gz_ne (by omega) (tgt := 13) dX11_use_8 (by decide) (fun h8 => ?_) (fun h8 => by exfalso; omega)
        refine go_iload_n (q := 2) (i := 2) rfl rfl dX11_use_13 ?_
        refine go_tswIn (off := 44) (tgt := 58) dX11_use_14 (by decide) (by decide) (by decide) (by decide) ?_
        refine go_aload_n (q := 0) (i := 0) rfl rfl dX11_use_58 ?_
        refine go_getR lf11_86 rfl hX.o hX.rp dX11_use_59 ?_
        refine go_getR lf11_181 rfl hX.wp.o hX.wp.r13 dX11_use_62 ?_
        refine go_iload_n (q := 1) (i := 1) rfl rfl dX11_use_65 ?_
        refine go_iald (j := i) hX.wp.i13 (by omega) (by first | decide | omega) rfl dX11_use_66 ?_
        rw [(hP.uu i hi).2.1]
        refine go_iret rfl ⟨Nat.zero_le _, Nat.zero_le _⟩ dX11_use_67 ?_
        refine ⟨?_, Ch.rf⟩
        simp only [usS, hu, hw, i10, reduceIte, i20, i21, i3x.1, i3x.2.1, i3x.2.2.1, i3x.2.2.2.1, i3x.2.2.2.2.1, i3x.2.2.2.2.2.1, i3x.2.2.2.2.2.2, nI_clamp (show i < 2 ^ 31 by omega)]
      · skip
        refine go_aload_n (q := 0) (i := 0) rfl rfl dX11_use_0 ?_
        refine go_getR lf11_86 rfl hX.o hX.rp dX11_use_1 ?_
        refine go_iload_n (q := 1) (i := 1) rfl rfl dX11_use_4 ?_
        refine go_callV okmX7_hasUse lmX11_175 ⟨nle rfl, nle rfl⟩ hX.wp.o ⟨by decide, rfl⟩ (ev_hasUse hX.wp) npmX7_hasUse rfl (nle rfl) ⟨nle rfl, nle rfl⟩ dX11_use_5 ?_
        rintro _ mz ⟨rfl, hz⟩
        subst mz
        rw [hP.us, has_in ok.2.2.2.1 (by decide), hu]
        refine go_c1 ?_
        refine gz_ne (by omega) (tgt := 13) dX11_use_8 (by decide) (fun h8 => ?_) (fun h8 => by exfalso; omega)
        refine go_iload_n (q := 2) (i := 2) rfl rfl dX11_use_13 ?_
        refine go_tswIn (off := 54) (tgt := 68) dX11_use_14 (by decide) (by decide) (by decide) (by decide) ?_
        refine go_aload_n (q := 0) (i := 0) rfl rfl dX11_use_68 ?_
        refine go_getR lf11_86 rfl hX.o hX.rp dX11_use_69 ?_
        refine go_getR lf11_184 rfl hX.wp.o hX.wp.r14 dX11_use_72 ?_
        refine go_iload_n (q := 1) (i := 1) rfl rfl dX11_use_75 ?_
        refine go_iald (j := i) hX.wp.i14 (by omega) (by first | decide | omega) rfl dX11_use_76 ?_
        rw [(hP.uu i hi).2.2.1]
        refine go_iret rfl ⟨Nat.zero_le _, Nat.zero_le _⟩ dX11_use_77 ?_
        refine ⟨?_, Ch.rf⟩
        simp only [usS, hu, hw, i10, reduceIte, i20, i21, i3x.1, i3x.2.1, i3x.2.2.1, i3x.2.2.2.1, i3x.2.2.2.2.1, i3x.2.2.2.2.2.1, i3x.2.2.2.2.2.2, nI_clamp (show i < 2 ^ 31 by omega)]
      · skip
        refine go_aload_n (q := 0) (i := 0) rfl rfl dX11_use_0 ?_
        refine go_getR lf11_86 rfl hX.o hX.rp dX11_use_1 ?_
        refine go_iload_n (q := 1) (i := 1) rfl rfl dX11_use_4 ?_
        refine go_callV okmX7_hasUse lmX11_175 ⟨nle rfl, nle rfl⟩ hX.wp.o ⟨by decide, rfl⟩ (ev_hasUse hX.wp) npmX7_hasUse rfl (nle rfl) ⟨nle rfl, nle rfl⟩ dX11_use_5 ?_
        rintro _ mz ⟨rfl, hz⟩
        subst mz
        rw [hP.us, has_in ok.2.2.2.1 (by decide), hu]
        refine go_c1 ?_
        refine gz_ne (by omega) (tgt := 13) dX11_use_8 (by decide) (fun h8 => ?_) (fun h8 => by exfalso; omega)
        refine go_iload_n (q := 2) (i := 2) rfl rfl dX11_use_13 ?_
        refine go_tswIn (off := 64) (tgt := 78) dX11_use_14 (by decide) (by decide) (by decide) (by decide) ?_
        refine go_aload_n (q := 0) (i := 0) rfl rfl dX11_use_78 ?_
        refine go_getR lf11_86 rfl hX.o hX.rp dX11_use_79 ?_
        refine go_getR lf11_187 rfl hX.wp.o hX.wp.r15 dX11_use_82 ?_
        refine go_iload_n (q := 1) (i := 1) rfl rfl dX11_use_85 ?_
        refine go_iald (j := i) hX.wp.i15 (by omega) (by first | decide | omega) rfl dX11_use_86 ?_
        rw [(hP.uu i hi).2.2.2]
        refine go_iret rfl ⟨Nat.zero_le _, Nat.zero_le _⟩ dX11_use_87 ?_
        refine ⟨?_, Ch.rf⟩
        simp only [usS, hu, hw, i10, reduceIte, i20, i21, i3x.1, i3x.2.1, i3x.2.2.1, i3x.2.2.2.1, i3x.2.2.2.2.1, i3x.2.2.2.2.2.1, i3x.2.2.2.2.2.2, nI_clamp (show i < 2 ^ 31 by omega)]
      · skip
        refine go_aload_n (q := 0) (i := 0) rfl rfl dX11_use_0 ?_
        refine go_getR lf11_86 rfl hX.o hX.rp dX11_use_1 ?_
        refine go_iload_n (q := 1) (i := 1) rfl rfl dX11_use_4 ?_
        refine go_callV okmX7_hasUse lmX11_175 ⟨nle rfl, nle rfl⟩ hX.wp.o ⟨by decide, rfl⟩ (ev_hasUse hX.wp) npmX7_hasUse rfl (nle rfl) ⟨nle rfl, nle rfl⟩ dX11_use_5 ?_
        rintro _ mz ⟨rfl, hz⟩
        subst mz
        rw [hP.us, has_in ok.2.2.2.1 (by decide), hu]
        refine go_c1 ?_
        refine gz_ne (by omega) (tgt := 13) dX11_use_8 (by decide) (fun h8 => ?_) (fun h8 => by exfalso; omega)
        refine go_iload_n (q := 2) (i := 2) rfl rfl dX11_use_13 ?_
        refine go_tswIn (off := 74) (tgt := 88) dX11_use_14 (by decide) (by decide) (by decide) (by decide) ?_
        refine go_aload_n (q := 0) (i := 0) rfl rfl dX11_use_88 ?_
        refine go_getR lf11_86 rfl hX.o hX.rp dX11_use_89 ?_
        refine go_iload_n (q := 1) (i := 1) rfl rfl dX11_use_92 ?_
        refine go_aload_n (q := 0) (i := 0) rfl rfl dX11_use_93 ?_
        refine go_getR lf11_47 rfl hX.o hX.r5 dX11_use_94 ?_
        refine go_getI lf11_137 rfl hX.w5.o dX11_use_97 ?_
        rw [show gI m 15 0 = r 104 from (gw_h (m := m) (g := 15)).trans (hc.s (by omega) (by omega))]
        refine go_callV okmX7_isHourOf lmX11_190 ⟨nle rfl, nle rfl⟩ hX.wp.o ⟨by decide, rfl⟩ (ev_isHourOf hX.wp (by omega) hu2) npmX7_isHourOf rfl (nle rfl) ⟨nle rfl, nle rfl⟩ dX11_use_100 ?_
        rintro _ mz ⟨rfl, hz⟩
        subst mz
        rw [(hP.uu i hi).2.1, (hP.uu i hi).2.2.1]
        refine go_c1 ?_
        refine go_if_eq (tgt := 110) dX11_use_103 (by decide) (fun h103 => ?_) (fun h103 => ?_)
        · skip
          refine go_iconst (v := nI 0) (by decide) dX11_use_110 ?_
          refine go_iret rfl ⟨Nat.zero_le _, Nat.zero_le _⟩ dX11_use_111 ?_
          refine ⟨?_, Ch.rf⟩
          simp only [usS, hu, hw, i10, reduceIte, i20, i21, i3x.1, i3x.2.1, i3x.2.2.1, i3x.2.2.2.1, i3x.2.2.2.2.1, i3x.2.2.2.2.2.1, i3x.2.2.2.2.2.2, nI_clamp (show i < 2 ^ 31 by omega)]
          rw [show ihS _ _ _ = nI 0 from h103.trans nI_0.symm]
        · skip
          refine go_iconst (v := nI 1) (by decide) dX11_use_106 ?_
          refine go_goto (tgt := 111) dX11_use_107 (by decide) ?_
          refine go_iret rfl ⟨Nat.zero_le _, Nat.zero_le _⟩ dX11_use_111 ?_
          refine ⟨?_, Ch.rf⟩
          simp only [usS, hu, hw, i10, reduceIte, i20, i21, i3x.1, i3x.2.1, i3x.2.2.1, i3x.2.2.2.1, i3x.2.2.2.2.1, i3x.2.2.2.2.2.1, i3x.2.2.2.2.2.2, nI_clamp (show i < 2 ^ 31 by omega)]
          rw [is_1 (ih01 _ _ _) (fun z => h103 (z.trans nI_0))]
set_option maxRecDepth 100000 in
set_option maxHeartbeats 8000000 in
theorem ex_use {m : Me} {P : Pl} {lv : Nat} (hx : Wf12 m.1 (gR m)) (hm : MdC m P lv) (ok : PlOk P) {u w : Int32} : Ev mX12_use [.ref 274, .int u, .int w] m (fun o m' => o = some (.int (usS P (cp 105 (gI m 315) (gI m 316)) u w)) ∧ Mo m m') := by
  refine ⟨plmX12_use, nle rfl, ?_⟩
  have hw8 := ok.1
  have hr5 := ok.2.1
  have hlv := hm.lv
  have hh4 := ok.2.2.1
  have hu6 := ok.2.2.2.1
  rcases hd_c (n := P.us) (by omega) u with hu | ⟨i, hi, rfl, hu⟩
  · skip
    refine go_aload_n (q := 0) (i := 0) rfl rfl dX12_use_0 ?_
    refine go_iload_n (q := 1) (i := 1) rfl rfl dX12_use_1 ?_
    refine go_callV okmX12_isUse lmX12_429 ⟨nle rfl, nle rfl⟩ hx.o ⟨by decide, rfl⟩ (ex_isUse hx hm) npmX12_isUse rfl (nle rfl) ⟨nle rfl, nle rfl⟩ dX12_use_2 ?_
    rintro _ mz ⟨rfl, hz⟩
    subst mz
    rw [hu]
    refine go_c1 ?_
    refine gz_ne (by omega) (tgt := 10) dX12_use_5 (by decide) (fun h5 => by exfalso; omega) (fun h5 => ?_)
    refine go_iconst (v := -1) (by decide) dX12_use_8 ?_
    refine go_iret rfl ⟨Nat.zero_le _, Nat.zero_le _⟩ dX12_use_9 ?_
    refine ⟨?_, Mo.rf⟩
    simp only [usS, hu, i10, reduceIte]
  · skip
    rcases in_c w (N := 4) (by decide) with hw | ⟨k, hk, rfl, hw⟩
    · skip
      refine go_aload_n (q := 0) (i := 0) rfl rfl dX12_use_0 ?_
      refine go_iload_n (q := 1) (i := 1) rfl rfl dX12_use_1 ?_
      refine go_callV okmX12_isUse lmX12_429 ⟨nle rfl, nle rfl⟩ hx.o ⟨by decide, rfl⟩ (ex_isUse hx hm) npmX12_isUse rfl (nle rfl) ⟨nle rfl, nle rfl⟩ dX12_use_2 ?_
      rintro _ mz ⟨rfl, hz⟩
      subst mz
      rw [hu]
      refine go_c1 ?_
      refine gz_ne (by omega) (tgt := 10) dX12_use_5 (by decide) (fun h5 => ?_) (fun h5 => by exfalso; omega)
      refine go_iload_n (q := 2) (i := 2) rfl rfl dX12_use_10 ?_
      refine go_tswOut (tgt := 125) dX12_use_11 (in_out (by decide) hw) (by decide) ?_
      refine go_iconst (v := -1) (by decide) dX12_use_125 ?_
      refine go_iret rfl ⟨Nat.zero_le _, Nat.zero_le _⟩ dX12_use_126 ?_
      refine ⟨?_, Mo.rf⟩
      simp only [usS, hu, hw, i10, reduceIte]
    · skip
      rcases (show k = 0 ∨ k = 1 ∨ k = 2 ∨ k = 3 ∨ k = 4 by omega) with rfl | rfl | rfl | rfl | rfl
      · skip
        refine go_aload_n (q := 0) (i := 0) rfl rfl dX12_use_0 ?_
        refine go_iload_n (q := 1) (i := 1) rfl rfl dX12_use_1 ?_
        refine go_callV okmX12_isUse lmX12_429 ⟨nle rfl, nle rfl⟩ hx.o ⟨by decide, rfl⟩ (ex_isUse hx hm) npmX12_isUse rfl (nle rfl) ⟨nle rfl, nle rfl⟩ dX12_use_2 ?_
        rintro _ mz ⟨rfl, hz⟩
        subst mz
        rw [hu]
        refine go_c1 ?_
        refine gz_ne (by omega) (tgt := 10) dX12_use_5 (by decide) (fun h5 => ?_) (fun h5 => by exfalso; omega)
        refine go_iload_n (q := 2) (i := 2) rfl rfl dX12_use_10 ?_
        refine go_tswIn (off := 33) (tgt := 44) dX12_use_11 (by decide) (by decide) (by decide) (by decide) ?_
        refine go_aload_n (q := 0) (i := 0) rfl rfl dX12_use_44 ?_
        refine go_getR lf12_70 rfl hx.o hx.r31 dX12_use_45 ?_
        refine go_bipush (v := nI 6) (by decide) dX12_use_48 ?_
        refine go_aload_n (q := 0) (i := 0) rfl rfl dX12_use_50 ?_
        refine go_getI lf12_260 rfl hx.o dX12_use_51 ?_
        rw [hm.li]
        refine gn_mul dX12_use_54 ?_
        refine go_iload_n (q := 1) (i := 1) rfl rfl dX12_use_55 ?_
        refine gn_add dX12_use_56 ?_
        refine go_iald (j := ((6 * lv) + i)) hx.i31 (by omega) (by first | decide | omega) rfl dX12_use_57 ?_
        rw [(hm.uu i hi).1]
        refine go_iret rfl ⟨Nat.zero_le _, Nat.zero_le _⟩ dX12_use_58 ?_
        refine ⟨?_, Mo.rf⟩
        simp only [usS, hu, hw, i10, reduceIte, i20, i21, i3x.1, i3x.2.1, i3x.2.2.1, i3x.2.2.2.1, i3x.2.2.2.2.1, i3x.2.2.2.2.2.1, i3x.2.2.2.2.2.2, nI_clamp (show i < 2 ^ 31 by omega)]
      · skip
        refine go_aload_n (q := 0) (i := 0) rfl rfl dX12_use_0 ?_
        refine go_iload_n (q := 1) (i := 1) rfl rfl dX12_use_1 ?_
        refine go_callV okmX12_isUse lmX12_429 ⟨nle rfl, nle rfl⟩ hx.o ⟨by decide, rfl⟩ (ex_isUse hx hm) npmX12_isUse rfl (nle rfl) ⟨nle rfl, nle rfl⟩ dX12_use_2 ?_
        rintro _ mz ⟨rfl, hz⟩
        subst mz
        rw [hu]
        refine go_c1 ?_
        refine gz_ne (by omega) (tgt := 10) dX12_use_5 (by decide) (fun h5 => ?_) (fun h5 => by exfalso; omega)
        refine go_iload_n (q := 2) (i := 2) rfl rfl dX12_use_10 ?_
        refine go_tswIn (off := 48) (tgt := 59) dX12_use_11 (by decide) (by decide) (by decide) (by decide) ?_
        refine go_aload_n (q := 0) (i := 0) rfl rfl dX12_use_59 ?_
        refine go_getR lf12_73 rfl hx.o hx.r32 dX12_use_60 ?_
        refine go_bipush (v := nI 6) (by decide) dX12_use_63 ?_
        refine go_aload_n (q := 0) (i := 0) rfl rfl dX12_use_65 ?_
        refine go_getI lf12_260 rfl hx.o dX12_use_66 ?_
        rw [hm.li]
        refine gn_mul dX12_use_69 ?_
        refine go_iload_n (q := 1) (i := 1) rfl rfl dX12_use_70 ?_
        refine gn_add dX12_use_71 ?_
        refine go_iald (j := ((6 * lv) + i)) hx.i32 (by omega) (by first | decide | omega) rfl dX12_use_72 ?_
        rw [(hm.uu i hi).2.1]
        refine go_iret rfl ⟨Nat.zero_le _, Nat.zero_le _⟩ dX12_use_73 ?_
        refine ⟨?_, Mo.rf⟩
        simp only [usS, hu, hw, i10, reduceIte, i20, i21, i3x.1, i3x.2.1, i3x.2.2.1, i3x.2.2.2.1, i3x.2.2.2.2.1, i3x.2.2.2.2.2.1, i3x.2.2.2.2.2.2, nI_clamp (show i < 2 ^ 31 by omega)]
      · skip
        refine go_aload_n (q := 0) (i := 0) rfl rfl dX12_use_0 ?_
        refine go_iload_n (q := 1) (i := 1) rfl rfl dX12_use_1 ?_
        refine go_callV okmX12_isUse lmX12_429 ⟨nle rfl, nle rfl⟩ hx.o ⟨by decide, rfl⟩ (ex_isUse hx hm) npmX12_isUse rfl (nle rfl) ⟨nle rfl, nle rfl⟩ dX12_use_2 ?_
        rintro _ mz ⟨rfl, hz⟩
        subst mz
        rw [hu]
        refine go_c1 ?_
        refine gz_ne (by omega) (tgt := 10) dX12_use_5 (by decide) (fun h5 => ?_) (fun h5 => by exfalso; omega)
        refine go_iload_n (q := 2) (i := 2) rfl rfl dX12_use_10 ?_
        refine go_tswIn (off := 63) (tgt := 74) dX12_use_11 (by decide) (by decide) (by decide) (by decide) ?_
        refine go_aload_n (q := 0) (i := 0) rfl rfl dX12_use_74 ?_
        refine go_getR lf12_76 rfl hx.o hx.r33 dX12_use_75 ?_
        refine go_bipush (v := nI 6) (by decide) dX12_use_78 ?_
        refine go_aload_n (q := 0) (i := 0) rfl rfl dX12_use_80 ?_
        refine go_getI lf12_260 rfl hx.o dX12_use_81 ?_
        rw [hm.li]
        refine gn_mul dX12_use_84 ?_
        refine go_iload_n (q := 1) (i := 1) rfl rfl dX12_use_85 ?_
        refine gn_add dX12_use_86 ?_
        refine go_iald (j := ((6 * lv) + i)) hx.i33 (by omega) (by first | decide | omega) rfl dX12_use_87 ?_
        rw [(hm.uu i hi).2.2.1]
        refine go_iret rfl ⟨Nat.zero_le _, Nat.zero_le _⟩ dX12_use_88 ?_
        refine ⟨?_, Mo.rf⟩
        simp only [usS, hu, hw, i10, reduceIte, i20, i21, i3x.1, i3x.2.1, i3x.2.2.1, i3x.2.2.2.1, i3x.2.2.2.2.1, i3x.2.2.2.2.2.1, i3x.2.2.2.2.2.2, nI_clamp (show i < 2 ^ 31 by omega)]
      · skip
        refine go_aload_n (q := 0) (i := 0) rfl rfl dX12_use_0 ?_
        refine go_iload_n (q := 1) (i := 1) rfl rfl dX12_use_1 ?_
        refine go_callV okmX12_isUse lmX12_429 ⟨nle rfl, nle rfl⟩ hx.o ⟨by decide, rfl⟩ (ex_isUse hx hm) npmX12_isUse rfl (nle rfl) ⟨nle rfl, nle rfl⟩ dX12_use_2 ?_
        rintro _ mz ⟨rfl, hz⟩
        subst mz
        rw [hu]
        refine go_c1 ?_
        refine gz_ne (by omega) (tgt := 10) dX12_use_5 (by decide) (fun h5 => ?_) (fun h5 => by exfalso; omega)
        refine go_iload_n (q := 2) (i := 2) rfl rfl dX12_use_10 ?_
        refine go_tswIn (off := 78) (tgt := 89) dX12_use_11 (by decide) (by decide) (by decide) (by decide) ?_
        refine go_aload_n (q := 0) (i := 0) rfl rfl dX12_use_89 ?_
        refine go_getR lf12_79 rfl hx.o hx.r34 dX12_use_90 ?_
        refine go_bipush (v := nI 6) (by decide) dX12_use_93 ?_
        refine go_aload_n (q := 0) (i := 0) rfl rfl dX12_use_95 ?_
        refine go_getI lf12_260 rfl hx.o dX12_use_96 ?_
        rw [hm.li]
        refine gn_mul dX12_use_99 ?_
        refine go_iload_n (q := 1) (i := 1) rfl rfl dX12_use_100 ?_
        refine gn_add dX12_use_101 ?_
        refine go_iald (j := ((6 * lv) + i)) hx.i34 (by omega) (by first | decide | omega) rfl dX12_use_102 ?_
        rw [(hm.uu i hi).2.2.2]
        refine go_iret rfl ⟨Nat.zero_le _, Nat.zero_le _⟩ dX12_use_103 ?_
        refine ⟨?_, Mo.rf⟩
        simp only [usS, hu, hw, i10, reduceIte, i20, i21, i3x.1, i3x.2.1, i3x.2.2.1, i3x.2.2.2.1, i3x.2.2.2.2.1, i3x.2.2.2.2.2.1, i3x.2.2.2.2.2.2, nI_clamp (show i < 2 ^ 31 by omega)]
      · skip
        refine go_aload_n (q := 0) (i := 0) rfl rfl dX12_use_0 ?_
        refine go_iload_n (q := 1) (i := 1) rfl rfl dX12_use_1 ?_
        refine go_callV okmX12_isUse lmX12_429 ⟨nle rfl, nle rfl⟩ hx.o ⟨by decide, rfl⟩ (ex_isUse hx hm) npmX12_isUse rfl (nle rfl) ⟨nle rfl, nle rfl⟩ dX12_use_2 ?_
        rintro _ mz ⟨rfl, hz⟩
        subst mz
        rw [hu]
        refine go_c1 ?_
        refine gz_ne (by omega) (tgt := 10) dX12_use_5 (by decide) (fun h5 => ?_) (fun h5 => by exfalso; omega)
        refine go_iload_n (q := 2) (i := 2) rfl rfl dX12_use_10 ?_
        refine go_tswIn (off := 93) (tgt := 104) dX12_use_11 (by decide) (by decide) (by decide) (by decide) ?_
        refine go_aload_n (q := 0) (i := 0) rfl rfl dX12_use_104 ?_
        refine go_iload_n (q := 1) (i := 1) rfl rfl dX12_use_105 ?_
        refine go_aload_n (q := 0) (i := 0) rfl rfl dX12_use_106 ?_
        refine go_getR lf12_140 rfl hx.o hx.r58 dX12_use_107 ?_
        refine go_bipush (v := nI 104) (by decide) dX12_use_110 ?_
        refine go_iald (j := 104) hx.i58 (by omega) (by first | decide | omega) rfl dX12_use_112 ?_
        rw [show gI m 315 104 = (cp 105 (gI m 315) (gI m 316)) 104 from (cp_in (by decide)).symm]
        refine go_callV okmX12_isItsHour lmX12_432 ⟨nle rfl, nle rfl⟩ hx.o ⟨by decide, rfl⟩ (ex_isItsHour hx hm ok hi) npmX12_isItsHour rfl (nle rfl) ⟨nle rfl, nle rfl⟩ dX12_use_113 ?_
        rintro _ mz ⟨rfl, hz⟩
        subst mz
        refine go_c1 ?_
        refine go_if_eq (tgt := 123) dX12_use_116 (by decide) (fun h116 => ?_) (fun h116 => ?_)
        · skip
          refine go_iconst (v := nI 0) (by decide) dX12_use_123 ?_
          refine go_iret rfl ⟨Nat.zero_le _, Nat.zero_le _⟩ dX12_use_124 ?_
          refine ⟨?_, Mo.rf⟩
          simp only [usS, hu, hw, i10, reduceIte, i20, i21, i3x.1, i3x.2.1, i3x.2.2.1, i3x.2.2.2.1, i3x.2.2.2.2.1, i3x.2.2.2.2.2.1, i3x.2.2.2.2.2.2, nI_clamp (show i < 2 ^ 31 by omega)]
          rw [show ihS _ _ _ = nI 0 from h116.trans nI_0.symm]
        · skip
          refine go_iconst (v := nI 1) (by decide) dX12_use_119 ?_
          refine go_goto (tgt := 124) dX12_use_120 (by decide) ?_
          refine go_iret rfl ⟨Nat.zero_le _, Nat.zero_le _⟩ dX12_use_124 ?_
          refine ⟨?_, Mo.rf⟩
          simp only [usS, hu, hw, i10, reduceIte, i20, i21, i3x.1, i3x.2.1, i3x.2.2.1, i3x.2.2.2.1, i3x.2.2.2.2.1, i3x.2.2.2.2.2.1, i3x.2.2.2.2.2.2, nI_clamp (show i < 2 ^ 31 by omega)]
          rw [is_1 (ih01 _ _ _) (fun z => h116 (z.trans nI_0))]
