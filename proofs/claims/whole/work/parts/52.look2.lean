theorem i20 : (nI 2 = nI 0) = False := by simp only [eq_iff_iff, iff_false]; decide
theorem i21 : (nI 2 = nI 1) = False := by simp only [eq_iff_iff, iff_false]; decide
theorem i1m (n : Nat) (h : n < 2 ^ 31) : ¬ (-1 : Int32) = nI n := fun q => by
  have := congrArg Int32.toInt q
  rw [nI_toInt h] at this
  have e : (-1 : Int32).toInt = -1 := by decide
  omega
set_option maxRecDepth 100000 in
set_option maxHeartbeats 8000000 in
theorem ev_all {m : Me} {pl dr M : Nat} {P : Pl} {r : Nat → Int32} (hX : CX m.1 (gR m) pl dr) (hP : PlC m pl P) (ok : PlOk P) (hM : M < 2 ^ 18) (hr : RoOk P M r) (hc : CR P (gw m 15) r) {n w h : Int32} : Ev mX11_all [.ref 0, .int n, .int w, .int h] m (fun o m' => o = some (.int (allS P r n w h)) ∧ Ch (LkS pl) m m') := by
  refine ⟨plmX11_all, nle rfl, ?_⟩
  have hw8 := ok.1
  have hr5 := ok.2.1
  have hpd := hX.pd
  have hh4 := ok.2.2.1
  have hu6 := ok.2.2.2.1
  rcases in_c n (N := 72) (by decide) with hn | ⟨j, hj, rfl, hn⟩
  · skip
    refine go_iload_n (q := 1) (i := 1) rfl rfl dX11_all_0 ?_
    refine go_callS okmX11_isAhead lmX11_219 ⟨nle rfl, nle rfl⟩ (ev_isAhead) npmX11_isAhead rfl (nle rfl) ⟨nle rfl, nle rfl⟩ dX11_all_1 ?_
    rintro _ mz ⟨rfl, hz⟩
    subst mz
    rw [ah_in, hn]
    refine go_c1 ?_
    refine gz_eq (by omega) (tgt := 31) dX11_all_4 (by decide) (fun h4 => ?_) (fun h4 => by exfalso; omega)
    refine go_iconst (v := -1) (by decide) dX11_all_31 ?_
    refine go_iret rfl ⟨Nat.zero_le _, Nat.zero_le _⟩ dX11_all_32 ?_
    refine ⟨?_, Ch.rf⟩
    simp only [allS, hn, i10, reduceIte]
  · skip
    rcases in_c w (N := 2) (by decide) with hw | ⟨k, hk, rfl, hw⟩
    · skip
      refine go_iload_n (q := 1) (i := 1) rfl rfl dX11_all_0 ?_
      refine go_callS okmX11_isAhead lmX11_219 ⟨nle rfl, nle rfl⟩ (ev_isAhead) npmX11_isAhead rfl (nle rfl) ⟨nle rfl, nle rfl⟩ dX11_all_1 ?_
      rintro _ mz ⟨rfl, hz⟩
      subst mz
      rw [ah_in, hn]
      refine go_c1 ?_
      refine gz_eq (by omega) (tgt := 31) dX11_all_4 (by decide) (fun h4 => by exfalso; omega) (fun h4 => ?_)
      refine go_iload_n (q := 2) (i := 2) rfl rfl dX11_all_7 ?_
      refine go_if_lt (tgt := 31) dX11_all_8 (by decide) (fun h8 => ?_) (fun h8 => ?_)
      · skip
        refine go_iconst (v := -1) (by decide) dX11_all_31 ?_
        refine go_iret rfl ⟨Nat.zero_le _, Nat.zero_le _⟩ dX11_all_32 ?_
        refine ⟨?_, Ch.rf⟩
        simp only [allS, hn, hw, i10, reduceIte]
      · skip
        refine go_iload_n (q := 2) (i := 2) rfl rfl dX11_all_11 ?_
        refine go_iconst (v := nI 2) (by decide) dX11_all_12 ?_
        refine go_icmp_gt (tgt := 31) dX11_all_13 (by decide) (fun h13 => ?_) (fun h13 => by exfalso; exact (in_n hw).elim h8 h13)
        refine go_iconst (v := -1) (by decide) dX11_all_31 ?_
        refine go_iret rfl ⟨Nat.zero_le _, Nat.zero_le _⟩ dX11_all_32 ?_
        refine ⟨?_, Ch.rf⟩
        simp only [allS, hn, hw, i10, reduceIte]
    · skip
      rcases (show k = 0 ∨ k = 1 ∨ k = 2 by omega) with rfl | rfl | rfl
      · skip
        refine go_iload_n (q := 1) (i := 1) rfl rfl dX11_all_0 ?_
        refine go_callS okmX11_isAhead lmX11_219 ⟨nle rfl, nle rfl⟩ (ev_isAhead) npmX11_isAhead rfl (nle rfl) ⟨nle rfl, nle rfl⟩ dX11_all_1 ?_
        rintro _ mz ⟨rfl, hz⟩
        subst mz
        rw [ah_in, hn]
        refine go_c1 ?_
        refine gz_eq (by omega) (tgt := 31) dX11_all_4 (by decide) (fun h4 => by exfalso; omega) (fun h4 => ?_)
        refine go_iload_n (q := 2) (i := 2) rfl rfl dX11_all_7 ?_
        refine gz_lt (by omega) (tgt := 31) dX11_all_8 (by decide) (fun h8 => by exfalso; omega) (fun h8 => ?_)
        refine go_iload_n (q := 2) (i := 2) rfl rfl dX11_all_11 ?_
        refine go_iconst (v := nI 2) (by decide) dX11_all_12 ?_
        refine gn_gt (by omega) (by omega) (tgt := 31) dX11_all_13 (by decide) (fun h13 => by exfalso; omega) (fun h13 => ?_)
        refine go_iload_n (q := 2) (i := 2) rfl rfl dX11_all_16 ?_
        refine gz_le (by omega) (tgt := 33) dX11_all_17 (by decide) (fun h17 => ?_) (fun h17 => by exfalso; omega)
        refine go_aload_n (q := 0) (i := 0) rfl rfl dX11_all_33 ?_
        refine go_getR lf11_51 rfl hX.o hX.r6 dX11_all_34 ?_
        refine go_aload_n (q := 0) (i := 0) rfl rfl dX11_all_37 ?_
        refine go_getR lf11_47 rfl hX.o hX.r5 dX11_all_38 ?_
        refine go_callV okmX1_copyFrom lmX11_205 ⟨nle rfl, nle rfl⟩ hX.w6.o ⟨by decide, rfl⟩ (ev_copyFrom hX.w6 hX.w5 (by omega)) npmX1_copyFrom rfl (nle rfl) ⟨nle rfl, nle rfl⟩ dX11_all_41 ?_
        rintro _ m1 ⟨rfl, cA, eA⟩
        have c1 : Ch (LkS pl) m m1 := cA.mn (fun x hx => by unfold LkS; omega)
        have hP := hP.lk hX c1
        have hX := CX.to c1 hX
        have hc1 : CR P (gw m1 21) r := by rw [eA]; exact hc
        refine go_c0 ?_
        refine go_aload_n (q := 0) (i := 0) rfl rfl dX11_all_44 ?_
        refine go_iload_n (q := 1) (i := 1) rfl rfl dX11_all_45 ?_
        refine go_aload_n (q := 0) (i := 0) rfl rfl dX11_all_46 ?_
        refine go_getR lf11_86 rfl hX.o hX.rp dX11_all_47 ?_
        refine go_getI lf11_208 rfl hX.wp.o dX11_all_50 ?_
        rw [hP.se]
        refine go_callV okmX11_passLater lmX11_211 ⟨nle rfl, nle rfl⟩ hX.o ⟨by decide, rfl⟩ (ev_passLater (M := M) hX hP ok (by omega) hM hr hc1) npmX11_passLater rfl (nle rfl) ⟨nle rfl, nle rfl⟩ dX11_all_53 ?_
        rintro _ m2 ⟨rfl, cB, hc2⟩
        have c2 := c1.tr cB
        have hP := hP.lk hX cB
        have hX := CX.to cB hX
        refine go_c0 ?_
        refine go_iload_n (q := 2) (i := 2) rfl rfl dX11_all_56 ?_
        refine gz_ne (by omega) (tgt := 68) dX11_all_57 (by decide) (fun h57 => by exfalso; omega) (fun h57 => ?_)
        refine go_aload_n (q := 0) (i := 0) rfl rfl dX11_all_60 ?_
        refine go_getR lf11_51 rfl hX.o hX.r6 dX11_all_61 ?_
        refine go_callV okmX1_fogOnLand lmX11_222 ⟨nle rfl, nle rfl⟩ hX.w6.o ⟨by decide, rfl⟩ (ev_fogOnLand hX.w6) npmX1_fogOnLand rfl (nle rfl) ⟨nle rfl, nle rfl⟩ dX11_all_64 ?_
        rintro _ mz ⟨rfl, hz⟩
        subst mz
        rw [hc2.sm]
        refine go_c1 ?_
        refine go_iret rfl ⟨Nat.zero_le _, Nat.zero_le _⟩ dX11_all_67 ?_
        refine ⟨?_, c2⟩
        simp only [allS, hn, hw, i10, reduceIte, nI_clamp (show j < 2 ^ 31 by omega)]
      · skip
        rcases hd_c (n := P.hd) (by omega) h with hh | ⟨i, hi, rfl, hh⟩
        · skip
          refine go_iload_n (q := 1) (i := 1) rfl rfl dX11_all_0 ?_
          refine go_callS okmX11_isAhead lmX11_219 ⟨nle rfl, nle rfl⟩ (ev_isAhead) npmX11_isAhead rfl (nle rfl) ⟨nle rfl, nle rfl⟩ dX11_all_1 ?_
          rintro _ mz ⟨rfl, hz⟩
          subst mz
          rw [ah_in, hn]
          refine go_c1 ?_
          refine gz_eq (by omega) (tgt := 31) dX11_all_4 (by decide) (fun h4 => by exfalso; omega) (fun h4 => ?_)
          refine go_iload_n (q := 2) (i := 2) rfl rfl dX11_all_7 ?_
          refine gz_lt (by omega) (tgt := 31) dX11_all_8 (by decide) (fun h8 => by exfalso; omega) (fun h8 => ?_)
          refine go_iload_n (q := 2) (i := 2) rfl rfl dX11_all_11 ?_
          refine go_iconst (v := nI 2) (by decide) dX11_all_12 ?_
          refine gn_gt (by omega) (by omega) (tgt := 31) dX11_all_13 (by decide) (fun h13 => by exfalso; omega) (fun h13 => ?_)
          refine go_iload_n (q := 2) (i := 2) rfl rfl dX11_all_16 ?_
          refine gz_le (by omega) (tgt := 33) dX11_all_17 (by decide) (fun h17 => by exfalso; omega) (fun h17 => ?_)
          refine go_aload_n (q := 0) (i := 0) rfl rfl dX11_all_20 ?_
          refine go_getR lf11_86 rfl hX.o hX.rp dX11_all_21 ?_
          refine go_iload_n (q := 3) (i := 3) rfl rfl dX11_all_24 ?_
          refine go_callV okmX7_hasHolding lmX11_148 ⟨nle rfl, nle rfl⟩ hX.wp.o ⟨by decide, rfl⟩ (ev_hasHolding hX.wp) npmX7_hasHolding rfl (nle rfl) ⟨nle rfl, nle rfl⟩ dX11_all_25 ?_
          rintro _ mz ⟨rfl, hz⟩
          subst mz
          rw [hP.hd, has_in ok.2.2.1 (by decide), hh]
          refine go_c1 ?_
          refine gz_ne (by omega) (tgt := 33) dX11_all_28 (by decide) (fun h28 => by exfalso; omega) (fun h28 => ?_)
          refine go_iconst (v := -1) (by decide) dX11_all_31 ?_
          refine go_iret rfl ⟨Nat.zero_le _, Nat.zero_le _⟩ dX11_all_32 ?_
          refine ⟨?_, Ch.rf⟩
          simp only [allS, hn, hw, hh, i10, reduceIte, i20, i21]
        · skip
          refine go_iload_n (q := 1) (i := 1) rfl rfl dX11_all_0 ?_
          refine go_callS okmX11_isAhead lmX11_219 ⟨nle rfl, nle rfl⟩ (ev_isAhead) npmX11_isAhead rfl (nle rfl) ⟨nle rfl, nle rfl⟩ dX11_all_1 ?_
          rintro _ mz ⟨rfl, hz⟩
          subst mz
          rw [ah_in, hn]
          refine go_c1 ?_
          refine gz_eq (by omega) (tgt := 31) dX11_all_4 (by decide) (fun h4 => by exfalso; omega) (fun h4 => ?_)
          refine go_iload_n (q := 2) (i := 2) rfl rfl dX11_all_7 ?_
          refine gz_lt (by omega) (tgt := 31) dX11_all_8 (by decide) (fun h8 => by exfalso; omega) (fun h8 => ?_)
          refine go_iload_n (q := 2) (i := 2) rfl rfl dX11_all_11 ?_
          refine go_iconst (v := nI 2) (by decide) dX11_all_12 ?_
          refine gn_gt (by omega) (by omega) (tgt := 31) dX11_all_13 (by decide) (fun h13 => by exfalso; omega) (fun h13 => ?_)
          refine go_iload_n (q := 2) (i := 2) rfl rfl dX11_all_16 ?_
          refine gz_le (by omega) (tgt := 33) dX11_all_17 (by decide) (fun h17 => by exfalso; omega) (fun h17 => ?_)
          refine go_aload_n (q := 0) (i := 0) rfl rfl dX11_all_20 ?_
          refine go_getR lf11_86 rfl hX.o hX.rp dX11_all_21 ?_
          refine go_iload_n (q := 3) (i := 3) rfl rfl dX11_all_24 ?_
          refine go_callV okmX7_hasHolding lmX11_148 ⟨nle rfl, nle rfl⟩ hX.wp.o ⟨by decide, rfl⟩ (ev_hasHolding hX.wp) npmX7_hasHolding rfl (nle rfl) ⟨nle rfl, nle rfl⟩ dX11_all_25 ?_
          rintro _ mz ⟨rfl, hz⟩
          subst mz
          rw [hP.hd, has_in ok.2.2.1 (by decide), hh]
          refine go_c1 ?_
          refine gz_ne (by omega) (tgt := 33) dX11_all_28 (by decide) (fun h28 => ?_) (fun h28 => by exfalso; omega)
          refine go_aload_n (q := 0) (i := 0) rfl rfl dX11_all_33 ?_
          refine go_getR lf11_51 rfl hX.o hX.r6 dX11_all_34 ?_
          refine go_aload_n (q := 0) (i := 0) rfl rfl dX11_all_37 ?_
          refine go_getR lf11_47 rfl hX.o hX.r5 dX11_all_38 ?_
          refine go_callV okmX1_copyFrom lmX11_205 ⟨nle rfl, nle rfl⟩ hX.w6.o ⟨by decide, rfl⟩ (ev_copyFrom hX.w6 hX.w5 (by omega)) npmX1_copyFrom rfl (nle rfl) ⟨nle rfl, nle rfl⟩ dX11_all_41 ?_
          rintro _ m1 ⟨rfl, cA, eA⟩
          have c1 : Ch (LkS pl) m m1 := cA.mn (fun x hx => by unfold LkS; omega)
          have hP := hP.lk hX c1
          have hX := CX.to c1 hX
          have hc1 : CR P (gw m1 21) r := by rw [eA]; exact hc
          refine go_c0 ?_
          refine go_aload_n (q := 0) (i := 0) rfl rfl dX11_all_44 ?_
          refine go_iload_n (q := 1) (i := 1) rfl rfl dX11_all_45 ?_
          refine go_aload_n (q := 0) (i := 0) rfl rfl dX11_all_46 ?_
          refine go_getR lf11_86 rfl hX.o hX.rp dX11_all_47 ?_
          refine go_getI lf11_208 rfl hX.wp.o dX11_all_50 ?_
          rw [hP.se]
          refine go_callV okmX11_passLater lmX11_211 ⟨nle rfl, nle rfl⟩ hX.o ⟨by decide, rfl⟩ (ev_passLater (M := M) hX hP ok (by omega) hM hr hc1) npmX11_passLater rfl (nle rfl) ⟨nle rfl, nle rfl⟩ dX11_all_53 ?_
          rintro _ m2 ⟨rfl, cB, hc2⟩
          have c2 := c1.tr cB
          have hP := hP.lk hX cB
          have hX := CX.to cB hX
          refine go_c0 ?_
          refine go_iload_n (q := 2) (i := 2) rfl rfl dX11_all_56 ?_
          refine gz_ne (by omega) (tgt := 68) dX11_all_57 (by decide) (fun h57 => ?_) (fun h57 => by exfalso; omega)
          refine go_iload_n (q := 2) (i := 2) rfl rfl dX11_all_68 ?_
          refine go_iconst (v := nI 1) (by decide) dX11_all_69 ?_
          refine gn_ne (by omega) (by omega) (tgt := 84) dX11_all_70 (by decide) (fun h70 => by exfalso; omega) (fun h70 => ?_)
          refine go_aload_n (q := 0) (i := 0) rfl rfl dX11_all_73 ?_
          refine go_getR lf11_51 rfl hX.o hX.r6 dX11_all_74 ?_
          refine go_iload_n (q := 3) (i := 3) rfl rfl dX11_all_77 ?_
          refine go_callV okmX1_fogOf lmX11_163 ⟨nle rfl, nle rfl⟩ hX.w6.o ⟨by decide, rfl⟩ (ev_fogOf hX.w6) npmX1_fogOf rfl (nle rfl) ⟨nle rfl, nle rfl⟩ dX11_all_78 ?_
          rintro _ mz ⟨rfl, hz⟩
          subst mz
          rw [fg_eq (f := hrN P (-1) P.se j r) (w := fun c => hrN P (-1) P.se j r (40 + c)) ok (fun c hq l => ⟨(gw_f hq).trans (hc2.f hq), (gw_w hq).trans (hc2.w hq l)⟩) (fun c hq l => by rw [(gw_w hq).trans (hc2.o hq l)]; exact i1m _ (by omega))]
          refine go_c1 ?_
          refine go_goto (tgt := 92) dX11_all_81 (by decide) ?_
          refine go_iret rfl ⟨Nat.zero_le _, Nat.zero_le _⟩ dX11_all_92 ?_
          refine ⟨?_, c2⟩
          simp only [allS, hn, hw, hh, i10, reduceIte, i20, i21, nI_clamp (show j < 2 ^ 31 by omega), nI_clamp (show i < 2 ^ 31 by omega)]
      · skip
        rcases hd_c (n := P.hd) (by omega) h with hh | ⟨i, hi, rfl, hh⟩
        · skip
          refine go_iload_n (q := 1) (i := 1) rfl rfl dX11_all_0 ?_
          refine go_callS okmX11_isAhead lmX11_219 ⟨nle rfl, nle rfl⟩ (ev_isAhead) npmX11_isAhead rfl (nle rfl) ⟨nle rfl, nle rfl⟩ dX11_all_1 ?_
          rintro _ mz ⟨rfl, hz⟩
          subst mz
          rw [ah_in, hn]
          refine go_c1 ?_
          refine gz_eq (by omega) (tgt := 31) dX11_all_4 (by decide) (fun h4 => by exfalso; omega) (fun h4 => ?_)
          refine go_iload_n (q := 2) (i := 2) rfl rfl dX11_all_7 ?_
          refine gz_lt (by omega) (tgt := 31) dX11_all_8 (by decide) (fun h8 => by exfalso; omega) (fun h8 => ?_)
          refine go_iload_n (q := 2) (i := 2) rfl rfl dX11_all_11 ?_
          refine go_iconst (v := nI 2) (by decide) dX11_all_12 ?_
          refine gn_gt (by omega) (by omega) (tgt := 31) dX11_all_13 (by decide) (fun h13 => by exfalso; omega) (fun h13 => ?_)
          refine go_iload_n (q := 2) (i := 2) rfl rfl dX11_all_16 ?_
          refine gz_le (by omega) (tgt := 33) dX11_all_17 (by decide) (fun h17 => by exfalso; omega) (fun h17 => ?_)
          refine go_aload_n (q := 0) (i := 0) rfl rfl dX11_all_20 ?_
          refine go_getR lf11_86 rfl hX.o hX.rp dX11_all_21 ?_
          refine go_iload_n (q := 3) (i := 3) rfl rfl dX11_all_24 ?_
          refine go_callV okmX7_hasHolding lmX11_148 ⟨nle rfl, nle rfl⟩ hX.wp.o ⟨by decide, rfl⟩ (ev_hasHolding hX.wp) npmX7_hasHolding rfl (nle rfl) ⟨nle rfl, nle rfl⟩ dX11_all_25 ?_
          rintro _ mz ⟨rfl, hz⟩
          subst mz
          rw [hP.hd, has_in ok.2.2.1 (by decide), hh]
          refine go_c1 ?_
          refine gz_ne (by omega) (tgt := 33) dX11_all_28 (by decide) (fun h28 => by exfalso; omega) (fun h28 => ?_)
          refine go_iconst (v := -1) (by decide) dX11_all_31 ?_
          refine go_iret rfl ⟨Nat.zero_le _, Nat.zero_le _⟩ dX11_all_32 ?_
          refine ⟨?_, Ch.rf⟩
          simp only [allS, hn, hw, hh, i10, reduceIte, i20, i21]
        · skip
          refine go_iload_n (q := 1) (i := 1) rfl rfl dX11_all_0 ?_
          refine go_callS okmX11_isAhead lmX11_219 ⟨nle rfl, nle rfl⟩ (ev_isAhead) npmX11_isAhead rfl (nle rfl) ⟨nle rfl, nle rfl⟩ dX11_all_1 ?_
          rintro _ mz ⟨rfl, hz⟩
          subst mz
          rw [ah_in, hn]
          refine go_c1 ?_
          refine gz_eq (by omega) (tgt := 31) dX11_all_4 (by decide) (fun h4 => by exfalso; omega) (fun h4 => ?_)
          refine go_iload_n (q := 2) (i := 2) rfl rfl dX11_all_7 ?_
          refine gz_lt (by omega) (tgt := 31) dX11_all_8 (by decide) (fun h8 => by exfalso; omega) (fun h8 => ?_)
          refine go_iload_n (q := 2) (i := 2) rfl rfl dX11_all_11 ?_
          refine go_iconst (v := nI 2) (by decide) dX11_all_12 ?_
          refine gn_gt (by omega) (by omega) (tgt := 31) dX11_all_13 (by decide) (fun h13 => by exfalso; omega) (fun h13 => ?_)
          refine go_iload_n (q := 2) (i := 2) rfl rfl dX11_all_16 ?_
          refine gz_le (by omega) (tgt := 33) dX11_all_17 (by decide) (fun h17 => by exfalso; omega) (fun h17 => ?_)
          refine go_aload_n (q := 0) (i := 0) rfl rfl dX11_all_20 ?_
          refine go_getR lf11_86 rfl hX.o hX.rp dX11_all_21 ?_
          refine go_iload_n (q := 3) (i := 3) rfl rfl dX11_all_24 ?_
          refine go_callV okmX7_hasHolding lmX11_148 ⟨nle rfl, nle rfl⟩ hX.wp.o ⟨by decide, rfl⟩ (ev_hasHolding hX.wp) npmX7_hasHolding rfl (nle rfl) ⟨nle rfl, nle rfl⟩ dX11_all_25 ?_
          rintro _ mz ⟨rfl, hz⟩
          subst mz
          rw [hP.hd, has_in ok.2.2.1 (by decide), hh]
          refine go_c1 ?_
          refine gz_ne (by omega) (tgt := 33) dX11_all_28 (by decide) (fun h28 => ?_) (fun h28 => by exfalso; omega)
          refine go_aload_n (q := 0) (i := 0) rfl rfl dX11_all_33 ?_
          refine go_getR lf11_51 rfl hX.o hX.r6 dX11_all_34 ?_
          refine go_aload_n (q := 0) (i := 0) rfl rfl dX11_all_37 ?_
          refine go_getR lf11_47 rfl hX.o hX.r5 dX11_all_38 ?_
          refine go_callV okmX1_copyFrom lmX11_205 ⟨nle rfl, nle rfl⟩ hX.w6.o ⟨by decide, rfl⟩ (ev_copyFrom hX.w6 hX.w5 (by omega)) npmX1_copyFrom rfl (nle rfl) ⟨nle rfl, nle rfl⟩ dX11_all_41 ?_
          rintro _ m1 ⟨rfl, cA, eA⟩
          have c1 : Ch (LkS pl) m m1 := cA.mn (fun x hx => by unfold LkS; omega)
          have hP := hP.lk hX c1
          have hX := CX.to c1 hX
          have hc1 : CR P (gw m1 21) r := by rw [eA]; exact hc
          refine go_c0 ?_
          refine go_aload_n (q := 0) (i := 0) rfl rfl dX11_all_44 ?_
          refine go_iload_n (q := 1) (i := 1) rfl rfl dX11_all_45 ?_
          refine go_aload_n (q := 0) (i := 0) rfl rfl dX11_all_46 ?_
          refine go_getR lf11_86 rfl hX.o hX.rp dX11_all_47 ?_
          refine go_getI lf11_208 rfl hX.wp.o dX11_all_50 ?_
          rw [hP.se]
          refine go_callV okmX11_passLater lmX11_211 ⟨nle rfl, nle rfl⟩ hX.o ⟨by decide, rfl⟩ (ev_passLater (M := M) hX hP ok (by omega) hM hr hc1) npmX11_passLater rfl (nle rfl) ⟨nle rfl, nle rfl⟩ dX11_all_53 ?_
          rintro _ m2 ⟨rfl, cB, hc2⟩
          have c2 := c1.tr cB
          have hP := hP.lk hX cB
          have hX := CX.to cB hX
          refine go_c0 ?_
          refine go_iload_n (q := 2) (i := 2) rfl rfl dX11_all_56 ?_
          refine gz_ne (by omega) (tgt := 68) dX11_all_57 (by decide) (fun h57 => ?_) (fun h57 => by exfalso; omega)
          refine go_iload_n (q := 2) (i := 2) rfl rfl dX11_all_68 ?_
          refine go_iconst (v := nI 1) (by decide) dX11_all_69 ?_
          refine gn_ne (by omega) (by omega) (tgt := 84) dX11_all_70 (by decide) (fun h70 => ?_) (fun h70 => by exfalso; omega)
          refine go_aload_n (q := 0) (i := 0) rfl rfl dX11_all_84 ?_
          refine go_getR lf11_51 rfl hX.o hX.r6 dX11_all_85 ?_
          refine go_iload_n (q := 3) (i := 3) rfl rfl dX11_all_88 ?_
          refine go_callV okmX1_storeOf lmX11_226 ⟨nle rfl, nle rfl⟩ hX.w6.o ⟨by decide, rfl⟩ (ev_storeOf hX.w6 (by omega)) npmX1_storeOf rfl (nle rfl) ⟨nle rfl, nle rfl⟩ dX11_all_89 ?_
          rintro _ mz ⟨rfl, hz⟩
          subst mz
          rw [show gI m2 (21 + 3) i = _ from (gw_s (by omega)).trans (hc2.s (by omega) (by omega))]
          refine go_c1 ?_
          refine go_iret rfl ⟨Nat.zero_le _, Nat.zero_le _⟩ dX11_all_92 ?_
          refine ⟨?_, c2⟩
          simp only [allS, hn, hw, hh, i10, reduceIte, i20, i21, nI_clamp (show j < 2 ^ 31 by omega), nI_clamp (show i < 2 ^ 31 by omega)]
set_option maxRecDepth 100000 in
set_option maxHeartbeats 8000000 in
theorem ex_all {m : Me} {P : Pl} {lv : Nat} (hx : Wf12 m.1 (gR m)) (hm : MdC m P lv) (ok : PlOk P) {n w h : Int32} : Ev mX12_all [.ref 274, .int n, .int w, .int h] m (fun o m' => o = some (.int (allS P (cp 105 (gI m 315) (gI m 316)) n w h)) ∧ Mo m m') := by
  refine ⟨plmX12_all, nle rfl, ?_⟩
  have hw8 := ok.1
  have hr5 := ok.2.1
  have hlv := hm.lv
  have hh4 := ok.2.2.1
  have hu6 := ok.2.2.2.1
  rcases in_c n (N := 72) (by decide) with hn | ⟨j, hj, rfl, hn⟩
  · skip
    refine go_iload_n (q := 1) (i := 1) rfl rfl dX12_all_0 ?_
    refine go_callS okmX12_isLong lmX12_441 ⟨nle rfl, nle rfl⟩ (ex_isLong) npmX12_isLong rfl (nle rfl) ⟨nle rfl, nle rfl⟩ dX12_all_1 ?_
    rintro _ mz ⟨rfl, hz⟩
    subst mz
    rw [hn]
    refine go_c1 ?_
    refine gz_eq (by omega) (tgt := 28) dX12_all_4 (by decide) (fun h4 => ?_) (fun h4 => by exfalso; omega)
    refine go_iconst (v := -1) (by decide) dX12_all_28 ?_
    refine go_iret rfl ⟨Nat.zero_le _, Nat.zero_le _⟩ dX12_all_29 ?_
    refine ⟨?_, Mo.rf⟩
    simp only [allS, hn, i10, reduceIte]
  · skip
    rcases in_c w (N := 2) (by decide) with hw | ⟨k, hk, rfl, hw⟩
    · skip
      refine go_iload_n (q := 1) (i := 1) rfl rfl dX12_all_0 ?_
      refine go_callS okmX12_isLong lmX12_441 ⟨nle rfl, nle rfl⟩ (ex_isLong) npmX12_isLong rfl (nle rfl) ⟨nle rfl, nle rfl⟩ dX12_all_1 ?_
      rintro _ mz ⟨rfl, hz⟩
      subst mz
      rw [hn]
      refine go_c1 ?_
      refine gz_eq (by omega) (tgt := 28) dX12_all_4 (by decide) (fun h4 => by exfalso; omega) (fun h4 => ?_)
      refine go_iload_n (q := 2) (i := 2) rfl rfl dX12_all_7 ?_
      refine go_iconst (v := nI 0) (by decide) dX12_all_8 ?_
      refine go_iconst (v := nI 2) (by decide) dX12_all_9 ?_
      refine go_callS okmX12_in lmX12_361 ⟨nle rfl, nle rfl⟩ (ex_in) npmX12_in rfl (nle rfl) ⟨nle rfl, nle rfl⟩ dX12_all_10 ?_
      rintro _ mz ⟨rfl, hz⟩
      subst mz
      rw [hw]
      refine go_c1 ?_
      refine gz_eq (by omega) (tgt := 28) dX12_all_13 (by decide) (fun h13 => ?_) (fun h13 => by exfalso; omega)
      refine go_iconst (v := -1) (by decide) dX12_all_28 ?_
      refine go_iret rfl ⟨Nat.zero_le _, Nat.zero_le _⟩ dX12_all_29 ?_
      refine ⟨?_, Mo.rf⟩
      simp only [allS, hn, hw, i10, reduceIte]
    · skip
      rcases (show k = 0 ∨ k = 1 ∨ k = 2 by omega) with rfl | rfl | rfl
      · skip
        refine go_iload_n (q := 1) (i := 1) rfl rfl dX12_all_0 ?_
        refine go_callS okmX12_isLong lmX12_441 ⟨nle rfl, nle rfl⟩ (ex_isLong) npmX12_isLong rfl (nle rfl) ⟨nle rfl, nle rfl⟩ dX12_all_1 ?_
        rintro _ mz ⟨rfl, hz⟩
        subst mz
        rw [hn]
        refine go_c1 ?_
        refine gz_eq (by omega) (tgt := 28) dX12_all_4 (by decide) (fun h4 => by exfalso; omega) (fun h4 => ?_)
        refine go_iload_n (q := 2) (i := 2) rfl rfl dX12_all_7 ?_
        refine go_iconst (v := nI 0) (by decide) dX12_all_8 ?_
        refine go_iconst (v := nI 2) (by decide) dX12_all_9 ?_
        refine go_callS okmX12_in lmX12_361 ⟨nle rfl, nle rfl⟩ (ex_in) npmX12_in rfl (nle rfl) ⟨nle rfl, nle rfl⟩ dX12_all_10 ?_
        rintro _ mz ⟨rfl, hz⟩
        subst mz
        rw [hw]
        refine go_c1 ?_
        refine gz_eq (by omega) (tgt := 28) dX12_all_13 (by decide) (fun h13 => by exfalso; omega) (fun h13 => ?_)
        refine go_iload_n (q := 2) (i := 2) rfl rfl dX12_all_16 ?_
        refine gz_le (by omega) (tgt := 30) dX12_all_17 (by decide) (fun h17 => ?_) (fun h17 => by exfalso; omega)
        refine go_aload_n (q := 0) (i := 0) rfl rfl dX12_all_30 ?_
        refine go_callV okmX12_copies lmX12_413 ⟨nle rfl, nle rfl⟩ hx.o ⟨by decide, rfl⟩ (ex_copies hx hm) npmX12_copies rfl (nle rfl) ⟨nle rfl, nle rfl⟩ dX12_all_31 ?_
        rintro _ m1 ⟨rfl, c1, e1, s1, l1, -⟩
        have hx := c1.wf hx
        have hm := c1.md hm
        refine go_c0 ?_
        refine go_aload_n (q := 0) (i := 0) rfl rfl dX12_all_34 ?_
        refine go_iload_n (q := 1) (i := 1) rfl rfl dX12_all_35 ?_
        refine go_callV okmX12_goes lmX12_438 ⟨nle rfl, nle rfl⟩ hx.o ⟨by decide, rfl⟩ (ex_goes hx hm ok (by omega)) npmX12_goes rfl (nle rfl) ⟨nle rfl, nle rfl⟩ dX12_all_36 ?_
        rintro _ m2 ⟨rfl, cB, e2⟩
        rw [s1, l1, e1] at e2
        have c2 := c1.tr cB.1
        have hx := cB.1.wf hx
        have hm := cB.1.md hm
        refine go_c0 ?_
        refine go_iload_n (q := 2) (i := 2) rfl rfl dX12_all_39 ?_
        refine gz_ne (by omega) (tgt := 50) dX12_all_40 (by decide) (fun h40 => by exfalso; omega) (fun h40 => ?_)
        refine go_aload_n (q := 0) (i := 0) rfl rfl dX12_all_43 ?_
        refine go_callV okmX12_fogAll lmX12_444 ⟨nle rfl, nle rfl⟩ hx.o ⟨by decide, rfl⟩ (ex_fogAll hx) npmX12_fogAll rfl (nle rfl) ⟨nle rfl, nle rfl⟩ dX12_all_44 ?_
        rintro _ mz ⟨rfl, hz⟩
        subst mz
        rw [e2]
        refine go_c1 ?_
        refine go_goto (tgt := 72) dX12_all_47 (by decide) ?_
        refine go_iret rfl ⟨Nat.zero_le _, Nat.zero_le _⟩ dX12_all_72 ?_
        refine ⟨?_, c2⟩
        simp only [allS, hn, hw, i10, reduceIte, nI_clamp (show j < 2 ^ 31 by omega)]
      · skip
        rcases hd_c (n := P.hd) (by omega) h with hh | ⟨i, hi, rfl, hh⟩
        · skip
          refine go_iload_n (q := 1) (i := 1) rfl rfl dX12_all_0 ?_
          refine go_callS okmX12_isLong lmX12_441 ⟨nle rfl, nle rfl⟩ (ex_isLong) npmX12_isLong rfl (nle rfl) ⟨nle rfl, nle rfl⟩ dX12_all_1 ?_
          rintro _ mz ⟨rfl, hz⟩
          subst mz
          rw [hn]
          refine go_c1 ?_
          refine gz_eq (by omega) (tgt := 28) dX12_all_4 (by decide) (fun h4 => by exfalso; omega) (fun h4 => ?_)
          refine go_iload_n (q := 2) (i := 2) rfl rfl dX12_all_7 ?_
          refine go_iconst (v := nI 0) (by decide) dX12_all_8 ?_
          refine go_iconst (v := nI 2) (by decide) dX12_all_9 ?_
          refine go_callS okmX12_in lmX12_361 ⟨nle rfl, nle rfl⟩ (ex_in) npmX12_in rfl (nle rfl) ⟨nle rfl, nle rfl⟩ dX12_all_10 ?_
          rintro _ mz ⟨rfl, hz⟩
          subst mz
          rw [hw]
          refine go_c1 ?_
          refine gz_eq (by omega) (tgt := 28) dX12_all_13 (by decide) (fun h13 => by exfalso; omega) (fun h13 => ?_)
          refine go_iload_n (q := 2) (i := 2) rfl rfl dX12_all_16 ?_
          refine gz_le (by omega) (tgt := 30) dX12_all_17 (by decide) (fun h17 => by exfalso; omega) (fun h17 => ?_)
          refine go_aload_n (q := 0) (i := 0) rfl rfl dX12_all_20 ?_
          refine go_iload_n (q := 3) (i := 3) rfl rfl dX12_all_21 ?_
          refine go_callV okmX12_isHolding lmX12_416 ⟨nle rfl, nle rfl⟩ hx.o ⟨by decide, rfl⟩ (ex_isHolding hx hm) npmX12_isHolding rfl (nle rfl) ⟨nle rfl, nle rfl⟩ dX12_all_22 ?_
          rintro _ mz ⟨rfl, hz⟩
          subst mz
          rw [hh]
          refine go_c1 ?_
          refine gz_ne (by omega) (tgt := 30) dX12_all_25 (by decide) (fun h25 => by exfalso; omega) (fun h25 => ?_)
          refine go_iconst (v := -1) (by decide) dX12_all_28 ?_
          refine go_iret rfl ⟨Nat.zero_le _, Nat.zero_le _⟩ dX12_all_29 ?_
          refine ⟨?_, Mo.rf⟩
          simp only [allS, hn, hw, hh, i10, reduceIte, i20, i21]
        · skip
          refine go_iload_n (q := 1) (i := 1) rfl rfl dX12_all_0 ?_
          refine go_callS okmX12_isLong lmX12_441 ⟨nle rfl, nle rfl⟩ (ex_isLong) npmX12_isLong rfl (nle rfl) ⟨nle rfl, nle rfl⟩ dX12_all_1 ?_
          rintro _ mz ⟨rfl, hz⟩
          subst mz
          rw [hn]
          refine go_c1 ?_
          refine gz_eq (by omega) (tgt := 28) dX12_all_4 (by decide) (fun h4 => by exfalso; omega) (fun h4 => ?_)
          refine go_iload_n (q := 2) (i := 2) rfl rfl dX12_all_7 ?_
          refine go_iconst (v := nI 0) (by decide) dX12_all_8 ?_
          refine go_iconst (v := nI 2) (by decide) dX12_all_9 ?_
          refine go_callS okmX12_in lmX12_361 ⟨nle rfl, nle rfl⟩ (ex_in) npmX12_in rfl (nle rfl) ⟨nle rfl, nle rfl⟩ dX12_all_10 ?_
          rintro _ mz ⟨rfl, hz⟩
          subst mz
          rw [hw]
          refine go_c1 ?_
          refine gz_eq (by omega) (tgt := 28) dX12_all_13 (by decide) (fun h13 => by exfalso; omega) (fun h13 => ?_)
          refine go_iload_n (q := 2) (i := 2) rfl rfl dX12_all_16 ?_
          refine gz_le (by omega) (tgt := 30) dX12_all_17 (by decide) (fun h17 => by exfalso; omega) (fun h17 => ?_)
          refine go_aload_n (q := 0) (i := 0) rfl rfl dX12_all_20 ?_
          refine go_iload_n (q := 3) (i := 3) rfl rfl dX12_all_21 ?_
          refine go_callV okmX12_isHolding lmX12_416 ⟨nle rfl, nle rfl⟩ hx.o ⟨by decide, rfl⟩ (ex_isHolding hx hm) npmX12_isHolding rfl (nle rfl) ⟨nle rfl, nle rfl⟩ dX12_all_22 ?_
          rintro _ mz ⟨rfl, hz⟩
          subst mz
          rw [hh]
          refine go_c1 ?_
          refine gz_ne (by omega) (tgt := 30) dX12_all_25 (by decide) (fun h25 => ?_) (fun h25 => by exfalso; omega)
          refine go_aload_n (q := 0) (i := 0) rfl rfl dX12_all_30 ?_
          refine go_callV okmX12_copies lmX12_413 ⟨nle rfl, nle rfl⟩ hx.o ⟨by decide, rfl⟩ (ex_copies hx hm) npmX12_copies rfl (nle rfl) ⟨nle rfl, nle rfl⟩ dX12_all_31 ?_
          rintro _ m1 ⟨rfl, c1, e1, s1, l1, -⟩
          have hx := c1.wf hx
          have hm := c1.md hm
          refine go_c0 ?_
          refine go_aload_n (q := 0) (i := 0) rfl rfl dX12_all_34 ?_
          refine go_iload_n (q := 1) (i := 1) rfl rfl dX12_all_35 ?_
          refine go_callV okmX12_goes lmX12_438 ⟨nle rfl, nle rfl⟩ hx.o ⟨by decide, rfl⟩ (ex_goes hx hm ok (by omega)) npmX12_goes rfl (nle rfl) ⟨nle rfl, nle rfl⟩ dX12_all_36 ?_
          rintro _ m2 ⟨rfl, cB, e2⟩
          rw [s1, l1, e1] at e2
          have c2 := c1.tr cB.1
          have hx := cB.1.wf hx
          have hm := cB.1.md hm
          refine go_c0 ?_
          refine go_iload_n (q := 2) (i := 2) rfl rfl dX12_all_39 ?_
          refine gz_ne (by omega) (tgt := 50) dX12_all_40 (by decide) (fun h40 => ?_) (fun h40 => by exfalso; omega)
          refine go_iload_n (q := 2) (i := 2) rfl rfl dX12_all_50 ?_
          refine go_iconst (v := nI 1) (by decide) dX12_all_51 ?_
          refine gn_ne (by omega) (by omega) (tgt := 63) dX12_all_52 (by decide) (fun h52 => by exfalso; omega) (fun h52 => ?_)
          refine go_aload_n (q := 0) (i := 0) rfl rfl dX12_all_55 ?_
          refine go_iload_n (q := 3) (i := 3) rfl rfl dX12_all_56 ?_
          refine go_callV okmX12_fogOf lmX12_387 ⟨nle rfl, nle rfl⟩ hx.o ⟨by decide, rfl⟩ (ex_fogOf hx hm ok) npmX12_fogOf rfl (nle rfl) ⟨nle rfl, nle rfl⟩ dX12_all_57 ?_
          rintro _ mz ⟨rfl, hz⟩
          subst mz
          rw [e2]
          refine go_c1 ?_
          refine go_goto (tgt := 72) dX12_all_60 (by decide) ?_
          refine go_iret rfl ⟨Nat.zero_le _, Nat.zero_le _⟩ dX12_all_72 ?_
          refine ⟨?_, c2⟩
          simp only [allS, hn, hw, hh, i10, reduceIte, i20, i21, nI_clamp (show j < 2 ^ 31 by omega), nI_clamp (show i < 2 ^ 31 by omega)]
      · skip
        rcases hd_c (n := P.hd) (by omega) h with hh | ⟨i, hi, rfl, hh⟩
        · skip
          refine go_iload_n (q := 1) (i := 1) rfl rfl dX12_all_0 ?_
          refine go_callS okmX12_isLong lmX12_441 ⟨nle rfl, nle rfl⟩ (ex_isLong) npmX12_isLong rfl (nle rfl) ⟨nle rfl, nle rfl⟩ dX12_all_1 ?_
          rintro _ mz ⟨rfl, hz⟩
          subst mz
          rw [hn]
          refine go_c1 ?_
          refine gz_eq (by omega) (tgt := 28) dX12_all_4 (by decide) (fun h4 => by exfalso; omega) (fun h4 => ?_)
          refine go_iload_n (q := 2) (i := 2) rfl rfl dX12_all_7 ?_
          refine go_iconst (v := nI 0) (by decide) dX12_all_8 ?_
          refine go_iconst (v := nI 2) (by decide) dX12_all_9 ?_
          refine go_callS okmX12_in lmX12_361 ⟨nle rfl, nle rfl⟩ (ex_in) npmX12_in rfl (nle rfl) ⟨nle rfl, nle rfl⟩ dX12_all_10 ?_
          rintro _ mz ⟨rfl, hz⟩
          subst mz
          rw [hw]
          refine go_c1 ?_
          refine gz_eq (by omega) (tgt := 28) dX12_all_13 (by decide) (fun h13 => by exfalso; omega) (fun h13 => ?_)
          refine go_iload_n (q := 2) (i := 2) rfl rfl dX12_all_16 ?_
          refine gz_le (by omega) (tgt := 30) dX12_all_17 (by decide) (fun h17 => by exfalso; omega) (fun h17 => ?_)
          refine go_aload_n (q := 0) (i := 0) rfl rfl dX12_all_20 ?_
          refine go_iload_n (q := 3) (i := 3) rfl rfl dX12_all_21 ?_
          refine go_callV okmX12_isHolding lmX12_416 ⟨nle rfl, nle rfl⟩ hx.o ⟨by decide, rfl⟩ (ex_isHolding hx hm) npmX12_isHolding rfl (nle rfl) ⟨nle rfl, nle rfl⟩ dX12_all_22 ?_
          rintro _ mz ⟨rfl, hz⟩
          subst mz
          rw [hh]
          refine go_c1 ?_
          refine gz_ne (by omega) (tgt := 30) dX12_all_25 (by decide) (fun h25 => by exfalso; omega) (fun h25 => ?_)
          refine go_iconst (v := -1) (by decide) dX12_all_28 ?_
          refine go_iret rfl ⟨Nat.zero_le _, Nat.zero_le _⟩ dX12_all_29 ?_
          refine ⟨?_, Mo.rf⟩
          simp only [allS, hn, hw, hh, i10, reduceIte, i20, i21]
        · skip
          refine go_iload_n (q := 1) (i := 1) rfl rfl dX12_all_0 ?_
          refine go_callS okmX12_isLong lmX12_441 ⟨nle rfl, nle rfl⟩ (ex_isLong) npmX12_isLong rfl (nle rfl) ⟨nle rfl, nle rfl⟩ dX12_all_1 ?_
          rintro _ mz ⟨rfl, hz⟩
          subst mz
          rw [hn]
          refine go_c1 ?_
          refine gz_eq (by omega) (tgt := 28) dX12_all_4 (by decide) (fun h4 => by exfalso; omega) (fun h4 => ?_)
          refine go_iload_n (q := 2) (i := 2) rfl rfl dX12_all_7 ?_
          refine go_iconst (v := nI 0) (by decide) dX12_all_8 ?_
          refine go_iconst (v := nI 2) (by decide) dX12_all_9 ?_
          refine go_callS okmX12_in lmX12_361 ⟨nle rfl, nle rfl⟩ (ex_in) npmX12_in rfl (nle rfl) ⟨nle rfl, nle rfl⟩ dX12_all_10 ?_
          rintro _ mz ⟨rfl, hz⟩
          subst mz
          rw [hw]
          refine go_c1 ?_
          refine gz_eq (by omega) (tgt := 28) dX12_all_13 (by decide) (fun h13 => by exfalso; omega) (fun h13 => ?_)
          refine go_iload_n (q := 2) (i := 2) rfl rfl dX12_all_16 ?_
          refine gz_le (by omega) (tgt := 30) dX12_all_17 (by decide) (fun h17 => by exfalso; omega) (fun h17 => ?_)
          refine go_aload_n (q := 0) (i := 0) rfl rfl dX12_all_20 ?_
          refine go_iload_n (q := 3) (i := 3) rfl rfl dX12_all_21 ?_
          refine go_callV okmX12_isHolding lmX12_416 ⟨nle rfl, nle rfl⟩ hx.o ⟨by decide, rfl⟩ (ex_isHolding hx hm) npmX12_isHolding rfl (nle rfl) ⟨nle rfl, nle rfl⟩ dX12_all_22 ?_
          rintro _ mz ⟨rfl, hz⟩
          subst mz
          rw [hh]
          refine go_c1 ?_
          refine gz_ne (by omega) (tgt := 30) dX12_all_25 (by decide) (fun h25 => ?_) (fun h25 => by exfalso; omega)
          refine go_aload_n (q := 0) (i := 0) rfl rfl dX12_all_30 ?_
          refine go_callV okmX12_copies lmX12_413 ⟨nle rfl, nle rfl⟩ hx.o ⟨by decide, rfl⟩ (ex_copies hx hm) npmX12_copies rfl (nle rfl) ⟨nle rfl, nle rfl⟩ dX12_all_31 ?_
          rintro _ m1 ⟨rfl, c1, e1, s1, l1, -⟩
          have hx := c1.wf hx
          have hm := c1.md hm
          refine go_c0 ?_
          refine go_aload_n (q := 0) (i := 0) rfl rfl dX12_all_34 ?_
          refine go_iload_n (q := 1) (i := 1) rfl rfl dX12_all_35 ?_
          refine go_callV okmX12_goes lmX12_438 ⟨nle rfl, nle rfl⟩ hx.o ⟨by decide, rfl⟩ (ex_goes hx hm ok (by omega)) npmX12_goes rfl (nle rfl) ⟨nle rfl, nle rfl⟩ dX12_all_36 ?_
          rintro _ m2 ⟨rfl, cB, e2⟩
          rw [s1, l1, e1] at e2
          have c2 := c1.tr cB.1
          have hx := cB.1.wf hx
          have hm := cB.1.md hm
          refine go_c0 ?_
          refine go_iload_n (q := 2) (i := 2) rfl rfl dX12_all_39 ?_
          refine gz_ne (by omega) (tgt := 50) dX12_all_40 (by decide) (fun h40 => ?_) (fun h40 => by exfalso; omega)
          refine go_iload_n (q := 2) (i := 2) rfl rfl dX12_all_50 ?_
          refine go_iconst (v := nI 1) (by decide) dX12_all_51 ?_
          refine gn_ne (by omega) (by omega) (tgt := 63) dX12_all_52 (by decide) (fun h52 => ?_) (fun h52 => by exfalso; omega)
          refine go_aload_n (q := 0) (i := 0) rfl rfl dX12_all_63 ?_
          refine go_getR lf12_143 rfl hx.o hx.r59 dX12_all_64 ?_
          refine go_bipush (v := nI 80) (by decide) dX12_all_67 ?_
          refine go_iload_n (q := 3) (i := 3) rfl rfl dX12_all_69 ?_
          refine gn_add dX12_all_70 ?_
          refine go_iald (j := (80 + i)) hx.i59 (by omega) (by first | decide | omega) rfl dX12_all_71 ?_
          refine go_iret rfl ⟨Nat.zero_le _, Nat.zero_le _⟩ dX12_all_72 ?_
          rw [e2]
          refine ⟨?_, c2⟩
          simp only [allS, hn, hw, hh, i10, reduceIte, i20, i21, nI_clamp (show j < 2 ^ 31 by omega), nI_clamp (show i < 2 ^ 31 by omega)]
set_option maxRecDepth 100000 in
set_option maxHeartbeats 8000000 in
theorem ev_lost {m : Me} {pl dr M : Nat} {P : Pl} {r : Nat → Int32} (hX : CX m.1 (gR m) pl dr) (hP : PlC m pl P) (ok : PlOk P) (hM : M < 2 ^ 18) (hr : RoOk P M r) (hc : CR P (gw m 15) r) {n : Int32} : Ev mX11_lost [.ref 0, .int n] m (fun o m' => o = some (.int (lostS P r n)) ∧ Ch (LkS pl) m m') := by
  refine ⟨plmX11_lost, nle rfl, ?_⟩
  have hw8 := ok.1
  have hr5 := ok.2.1
  have hpd := hX.pd
  rcases in_c n (N := 72) (by decide) with hn | ⟨j, hj, rfl, hn⟩
  · skip
    refine go_iload_n (q := 1) (i := 1) rfl rfl dX11_lost_0 ?_
    refine go_callS okmX11_isAhead lmX11_219 ⟨nle rfl, nle rfl⟩ (ev_isAhead) npmX11_isAhead rfl (nle rfl) ⟨nle rfl, nle rfl⟩ dX11_lost_1 ?_
    rintro _ mz ⟨rfl, hz⟩
    subst mz
    rw [ah_in, hn]
    refine go_c1 ?_
    refine gz_ne (by omega) (tgt := 9) dX11_lost_4 (by decide) (fun h4 => by exfalso; omega) (fun h4 => ?_)
    refine go_iconst (v := -1) (by decide) dX11_lost_7 ?_
    refine go_iret rfl ⟨Nat.zero_le _, Nat.zero_le _⟩ dX11_lost_8 ?_
    refine ⟨?_, Ch.rf⟩
    simp only [lostS, hn, i10, reduceIte]
  · skip
    refine go_iload_n (q := 1) (i := 1) rfl rfl dX11_lost_0 ?_
    refine go_callS okmX11_isAhead lmX11_219 ⟨nle rfl, nle rfl⟩ (ev_isAhead) npmX11_isAhead rfl (nle rfl) ⟨nle rfl, nle rfl⟩ dX11_lost_1 ?_
    rintro _ mz ⟨rfl, hz⟩
    subst mz
    rw [ah_in, hn]
    refine go_c1 ?_
    refine gz_ne (by omega) (tgt := 9) dX11_lost_4 (by decide) (fun h4 => ?_) (fun h4 => by exfalso; omega)
    refine go_aload_n (q := 0) (i := 0) rfl rfl dX11_lost_9 ?_
    refine go_getR lf11_51 rfl hX.o hX.r6 dX11_lost_10 ?_
    refine go_aload_n (q := 0) (i := 0) rfl rfl dX11_lost_13 ?_
    refine go_getR lf11_47 rfl hX.o hX.r5 dX11_lost_14 ?_
    refine go_callV okmX1_copyFrom lmX11_205 ⟨nle rfl, nle rfl⟩ hX.w6.o ⟨by decide, rfl⟩ (ev_copyFrom hX.w6 hX.w5 (by omega)) npmX1_copyFrom rfl (nle rfl) ⟨nle rfl, nle rfl⟩ dX11_lost_17 ?_
    rintro _ m1 ⟨rfl, cA, eA⟩
    have c1 : Ch (LkS pl) m m1 := cA.mn (fun x hx => by unfold LkS; omega)
    have hP := hP.lk hX c1
    have hX := CX.to c1 hX
    have hc1 : CR P (gw m1 21) r := by rw [eA]; exact hc
    refine go_c0 ?_
    refine go_aload_n (q := 0) (i := 0) rfl rfl dX11_lost_20 ?_
    refine go_iload_n (q := 1) (i := 1) rfl rfl dX11_lost_21 ?_
    refine go_aload_n (q := 0) (i := 0) rfl rfl dX11_lost_22 ?_
    refine go_getR lf11_86 rfl hX.o hX.rp dX11_lost_23 ?_
    refine go_getI lf11_208 rfl hX.wp.o dX11_lost_26 ?_
    rw [hP.se]
    refine go_callV okmX11_passLater lmX11_211 ⟨nle rfl, nle rfl⟩ hX.o ⟨by decide, rfl⟩ (ev_passLater (M := M) hX hP ok (by omega) hM hr hc1) npmX11_passLater rfl (nle rfl) ⟨nle rfl, nle rfl⟩ dX11_lost_29 ?_
    rintro _ m2 ⟨rfl, cB, hc2⟩
    have c2 := c1.tr cB
    have hP := hP.lk hX cB
    have hX := CX.to cB hX
    refine go_c0 ?_
    refine go_aload_n (q := 0) (i := 0) rfl rfl dX11_lost_32 ?_
    refine go_getR lf11_47 rfl hX.o hX.r5 dX11_lost_33 ?_
    refine go_callV okmX1_fogOnLand lmX11_222 ⟨nle rfl, nle rfl⟩ hX.w5.o ⟨by decide, rfl⟩ (ev_fogOnLand hX.w5) npmX1_fogOnLand rfl (nle rfl) ⟨nle rfl, nle rfl⟩ dX11_lost_36 ?_
    rintro _ mz ⟨rfl, hz⟩
    subst mz
    rw [CR.sm (r := r) (show CR P (gw m2 15) r from hc.gwto c2 hpd)]
    refine go_c1 ?_
    refine go_aload_n (q := 0) (i := 0) rfl rfl dX11_lost_39 ?_
    refine go_getR lf11_51 rfl hX.o hX.r6 dX11_lost_40 ?_
    refine go_callV okmX1_fogOnLand lmX11_222 ⟨nle rfl, nle rfl⟩ hX.w6.o ⟨by decide, rfl⟩ (ev_fogOnLand hX.w6) npmX1_fogOnLand rfl (nle rfl) ⟨nle rfl, nle rfl⟩ dX11_lost_43 ?_
    rintro _ mz ⟨rfl, hz⟩
    subst mz
    rw [hc2.sm]
    refine go_c1 ?_
    refine go_isub dX11_lost_46 ?_
    refine go_iret rfl ⟨Nat.zero_le _, Nat.zero_le _⟩ dX11_lost_47 ?_
    refine ⟨?_, c2⟩
    simp only [lostS, hn, i10, reduceIte, nI_clamp (show j < 2 ^ 31 by omega)]
set_option maxRecDepth 100000 in
set_option maxHeartbeats 8000000 in
theorem ex_lost {m : Me} {P : Pl} {lv : Nat} (hx : Wf12 m.1 (gR m)) (hm : MdC m P lv) (ok : PlOk P) {n : Int32} : Ev mX12_lost [.ref 274, .int n] m (fun o m' => o = some (.int (lostS P (cp 105 (gI m 315) (gI m 316)) n)) ∧ Mo m m') := by
  refine ⟨plmX12_lost, nle rfl, ?_⟩
  have hw8 := ok.1
  have hr5 := ok.2.1
  have hlv := hm.lv
  rcases in_c n (N := 72) (by decide) with hn | ⟨j, hj, rfl, hn⟩
  · skip
    refine go_iload_n (q := 1) (i := 1) rfl rfl dX12_lost_0 ?_
    refine go_callS okmX12_isLong lmX12_441 ⟨nle rfl, nle rfl⟩ (ex_isLong) npmX12_isLong rfl (nle rfl) ⟨nle rfl, nle rfl⟩ dX12_lost_1 ?_
    rintro _ mz ⟨rfl, hz⟩
    subst mz
    rw [hn]
    refine go_c1 ?_
    refine gz_ne (by omega) (tgt := 9) dX12_lost_4 (by decide) (fun h4 => by exfalso; omega) (fun h4 => ?_)
    refine go_iconst (v := -1) (by decide) dX12_lost_7 ?_
    refine go_iret rfl ⟨Nat.zero_le _, Nat.zero_le _⟩ dX12_lost_8 ?_
    refine ⟨?_, Mo.rf⟩
    simp only [lostS, hn, i10, reduceIte]
  · skip
    refine go_iload_n (q := 1) (i := 1) rfl rfl dX12_lost_0 ?_
    refine go_callS okmX12_isLong lmX12_441 ⟨nle rfl, nle rfl⟩ (ex_isLong) npmX12_isLong rfl (nle rfl) ⟨nle rfl, nle rfl⟩ dX12_lost_1 ?_
    rintro _ mz ⟨rfl, hz⟩
    subst mz
    rw [hn]
    refine go_c1 ?_
    refine gz_ne (by omega) (tgt := 9) dX12_lost_4 (by decide) (fun h4 => ?_) (fun h4 => by exfalso; omega)
    refine go_aload_n (q := 0) (i := 0) rfl rfl dX12_lost_9 ?_
    refine go_callV okmX12_copies lmX12_413 ⟨nle rfl, nle rfl⟩ hx.o ⟨by decide, rfl⟩ (ex_copies hx hm) npmX12_copies rfl (nle rfl) ⟨nle rfl, nle rfl⟩ dX12_lost_10 ?_
    rintro _ m1 ⟨rfl, c1, e1, s1, l1, -⟩
    have hx := c1.wf hx
    have hm := c1.md hm
    refine go_c0 ?_
    refine go_aload_n (q := 0) (i := 0) rfl rfl dX12_lost_13 ?_
    refine go_callV okmX12_fogAll lmX12_444 ⟨nle rfl, nle rfl⟩ hx.o ⟨by decide, rfl⟩ (ex_fogAll hx) npmX12_fogAll rfl (nle rfl) ⟨nle rfl, nle rfl⟩ dX12_lost_14 ?_
    rintro _ mz ⟨rfl, hz⟩
    subst mz
    rw [e1]
    refine go_c1 ?_
    refine go_istore_n (q := 2) (i := 2) rfl dX12_lost_17 (nle rfl) (nle rfl) ?_
    refine go_aload_n (q := 0) (i := 0) rfl rfl dX12_lost_18 ?_
    refine go_iload_n (q := 1) (i := 1) rfl rfl dX12_lost_19 ?_
    refine go_callV okmX12_goes lmX12_438 ⟨nle rfl, nle rfl⟩ hx.o ⟨by decide, rfl⟩ (ex_goes hx hm ok (by omega)) npmX12_goes rfl (nle rfl) ⟨nle rfl, nle rfl⟩ dX12_lost_20 ?_
    rintro _ m2 ⟨rfl, cB, e2⟩
    rw [s1, l1, e1] at e2
    have c2 := c1.tr cB.1
    have hx := cB.1.wf hx
    have hm := cB.1.md hm
    refine go_c0 ?_
    refine go_iload_n (q := 2) (i := 2) rfl rfl dX12_lost_23 ?_
    refine go_aload_n (q := 0) (i := 0) rfl rfl dX12_lost_24 ?_
    refine go_callV okmX12_fogAll lmX12_444 ⟨nle rfl, nle rfl⟩ hx.o ⟨by decide, rfl⟩ (ex_fogAll hx) npmX12_fogAll rfl (nle rfl) ⟨nle rfl, nle rfl⟩ dX12_lost_25 ?_
    rintro _ mz ⟨rfl, hz⟩
    subst mz
    rw [e2]
    refine go_c1 ?_
    refine go_isub dX12_lost_28 ?_
    refine go_iret rfl ⟨Nat.zero_le _, Nat.zero_le _⟩ dX12_lost_29 ?_
    refine ⟨?_, c2⟩
    simp only [lostS, hn, i10, reduceIte, nI_clamp (show j < 2 ^ 31 by omega)]
