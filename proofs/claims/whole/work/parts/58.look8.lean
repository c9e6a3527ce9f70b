noncomputable def twS (P : Pl) (h o : Int32) : Int32 := if inS h (nI 0) (nI P.hd - nI 1) = nI 0 then nI 0 else if inS o (nI 0) (nI P.hd - nI 1) = nI 0 then nI 0 else if h = o then nI 0 else nI 1
theorem nI_ne {a b : Nat} (ha : a < 2 ^ 31) (hb : b < 2 ^ 31) (h : ¬ a = b) : (nI a = nI b) = False := by
  simp only [eq_iff_iff, iff_false]
  exact fun q => h ((nI_eq ha hb).mp q)
set_option maxRecDepth 100000 in
set_option maxHeartbeats 8000000 in
theorem ev_two {m : Me} {pl dr : Nat} {P : Pl} (hX : CX m.1 (gR m) pl dr) (hP : PlC m pl P) (ok : PlOk P) {h h2 : Int32} : Ev mX11_areTwoHoldings [.ref 0, .int h, .int h2] m (fun o m' => o = some (.int (twS P h h2)) ∧ m' = m) := by
  refine ⟨plmX11_areTwoHoldings, nle rfl, ?_⟩
  have hw8 := ok.1
  have hr5 := ok.2.1
  have hpd := hX.pd
  have hh4 := ok.2.2.1
  have hu6 := ok.2.2.2.1
  rcases hd_c (n := P.hd) (by omega) h with hh | ⟨i, hi, rfl, hh⟩
  · skip
    refine go_aload_n (q := 0) (i := 0) rfl rfl dX11_areTwoHoldings_0 ?_
    refine go_getR lf11_86 rfl hX.o hX.rp dX11_areTwoHoldings_1 ?_
    refine go_iload_n (q := 1) (i := 1) rfl rfl dX11_areTwoHoldings_4 ?_
    refine go_callV okmX7_hasHolding lmX11_148 ⟨nle rfl, nle rfl⟩ hX.wp.o ⟨by decide, rfl⟩ (ev_hasHolding hX.wp) npmX7_hasHolding rfl (nle rfl) ⟨nle rfl, nle rfl⟩ dX11_areTwoHoldings_5 ?_
    rintro _ mz ⟨rfl, hz⟩
    subst mz
    rw [hP.hd, has_in ok.2.2.1 (by decide), hh]
    refine go_c1 ?_
    refine gz_eq (by omega) (tgt := 31) dX11_areTwoHoldings_8 (by decide) (fun h8 => ?_) (fun h8 => by exfalso; omega)
    refine go_iconst (v := nI 0) (by decide) dX11_areTwoHoldings_31 ?_
    refine go_zret rfl (by decide) ⟨Nat.zero_le _, Nat.zero_le _⟩ dX11_areTwoHoldings_32 ?_
    refine ⟨?_, rfl⟩
    simp only [twS, hh, i10, reduceIte]
  · skip
    rcases hd_c (n := P.hd) (by omega) h2 with ho | ⟨q, hq, rfl, ho⟩
    · skip
      refine go_aload_n (q := 0) (i := 0) rfl rfl dX11_areTwoHoldings_0 ?_
      refine go_getR lf11_86 rfl hX.o hX.rp dX11_areTwoHoldings_1 ?_
      refine go_iload_n (q := 1) (i := 1) rfl rfl dX11_areTwoHoldings_4 ?_
      refine go_callV okmX7_hasHolding lmX11_148 ⟨nle rfl, nle rfl⟩ hX.wp.o ⟨by decide, rfl⟩ (ev_hasHolding hX.wp) npmX7_hasHolding rfl (nle rfl) ⟨nle rfl, nle rfl⟩ dX11_areTwoHoldings_5 ?_
      rintro _ mz ⟨rfl, hz⟩
      subst mz
      rw [hP.hd, has_in ok.2.2.1 (by decide), hh]
      refine go_c1 ?_
      refine gz_eq (by omega) (tgt := 31) dX11_areTwoHoldings_8 (by decide) (fun h8 => by exfalso; omega) (fun h8 => ?_)
      refine go_aload_n (q := 0) (i := 0) rfl rfl dX11_areTwoHoldings_11 ?_
      refine go_getR lf11_86 rfl hX.o hX.rp dX11_areTwoHoldings_12 ?_
      refine go_iload_n (q := 2) (i := 2) rfl rfl dX11_areTwoHoldings_15 ?_
      refine go_callV okmX7_hasHolding lmX11_148 ⟨nle rfl, nle rfl⟩ hX.wp.o ⟨by decide, rfl⟩ (ev_hasHolding hX.wp) npmX7_hasHolding rfl (nle rfl) ⟨nle rfl, nle rfl⟩ dX11_areTwoHoldings_16 ?_
      rintro _ mz ⟨rfl, hz⟩
      subst mz
      rw [hP.hd, has_in ok.2.2.1 (by decide), ho]
      refine go_c1 ?_
      refine gz_eq (by omega) (tgt := 31) dX11_areTwoHoldings_19 (by decide) (fun h19 => ?_) (fun h19 => by exfalso; omega)
      refine go_iconst (v := nI 0) (by decide) dX11_areTwoHoldings_31 ?_
      refine go_zret rfl (by decide) ⟨Nat.zero_le _, Nat.zero_le _⟩ dX11_areTwoHoldings_32 ?_
      refine ⟨?_, rfl⟩
      simp only [twS, hh, ho, i10, reduceIte]
    · skip
      by_cases he : i = q
      · skip
        subst he
        refine go_aload_n (q := 0) (i := 0) rfl rfl dX11_areTwoHoldings_0 ?_
        refine go_getR lf11_86 rfl hX.o hX.rp dX11_areTwoHoldings_1 ?_
        refine go_iload_n (q := 1) (i := 1) rfl rfl dX11_areTwoHoldings_4 ?_
        refine go_callV okmX7_hasHolding lmX11_148 ⟨nle rfl, nle rfl⟩ hX.wp.o ⟨by decide, rfl⟩ (ev_hasHolding hX.wp) npmX7_hasHolding rfl (nle rfl) ⟨nle rfl, nle rfl⟩ dX11_areTwoHoldings_5 ?_
        rintro _ mz ⟨rfl, hz⟩
        subst mz
        rw [hP.hd, has_in ok.2.2.1 (by decide), hh]
        refine go_c1 ?_
        refine gz_eq (by omega) (tgt := 31) dX11_areTwoHoldings_8 (by decide) (fun h8 => by exfalso; omega) (fun h8 => ?_)
        refine go_aload_n (q := 0) (i := 0) rfl rfl dX11_areTwoHoldings_11 ?_
        refine go_getR lf11_86 rfl hX.o hX.rp dX11_areTwoHoldings_12 ?_
        refine go_iload_n (q := 2) (i := 2) rfl rfl dX11_areTwoHoldings_15 ?_
        refine go_callV okmX7_hasHolding lmX11_148 ⟨nle rfl, nle rfl⟩ hX.wp.o ⟨by decide, rfl⟩ (ev_hasHolding hX.wp) npmX7_hasHolding rfl (nle rfl) ⟨nle rfl, nle rfl⟩ dX11_areTwoHoldings_16 ?_
        rintro _ mz ⟨rfl, hz⟩
        subst mz
        rw [hP.hd, has_in ok.2.2.1 (by decide), ho]
        refine go_c1 ?_
        refine gz_eq (by omega) (tgt := 31) dX11_areTwoHoldings_19 (by decide) (fun h19 => by exfalso; omega) (fun h19 => ?_)
        refine go_iload_n (q := 1) (i := 1) rfl rfl dX11_areTwoHoldings_22 ?_
        refine go_iload_n (q := 2) (i := 2) rfl rfl dX11_areTwoHoldings_23 ?_
        refine gn_eq (by omega) (by omega) (tgt := 31) dX11_areTwoHoldings_24 (by decide) (fun h24 => ?_) (fun h24 => by exfalso; omega)
        refine go_iconst (v := nI 0) (by decide) dX11_areTwoHoldings_31 ?_
        refine go_zret rfl (by decide) ⟨Nat.zero_le _, Nat.zero_le _⟩ dX11_areTwoHoldings_32 ?_
        refine ⟨?_, rfl⟩
        simp only [twS, hh, i10, reduceIte]
      · skip
        refine go_aload_n (q := 0) (i := 0) rfl rfl dX11_areTwoHoldings_0 ?_
        refine go_getR lf11_86 rfl hX.o hX.rp dX11_areTwoHoldings_1 ?_
        refine go_iload_n (q := 1) (i := 1) rfl rfl dX11_areTwoHoldings_4 ?_
        refine go_callV okmX7_hasHolding lmX11_148 ⟨nle rfl, nle rfl⟩ hX.wp.o ⟨by decide, rfl⟩ (ev_hasHolding hX.wp) npmX7_hasHolding rfl (nle rfl) ⟨nle rfl, nle rfl⟩ dX11_areTwoHoldings_5 ?_
        rintro _ mz ⟨rfl, hz⟩
        subst mz
        rw [hP.hd, has_in ok.2.2.1 (by decide), hh]
        refine go_c1 ?_
        refine gz_eq (by omega) (tgt := 31) dX11_areTwoHoldings_8 (by decide) (fun h8 => by exfalso; omega) (fun h8 => ?_)
        refine go_aload_n (q := 0) (i := 0) rfl rfl dX11_areTwoHoldings_11 ?_
        refine go_getR lf11_86 rfl hX.o hX.rp dX11_areTwoHoldings_12 ?_
        refine go_iload_n (q := 2) (i := 2) rfl rfl dX11_areTwoHoldings_15 ?_
        refine go_callV okmX7_hasHolding lmX11_148 ⟨nle rfl, nle rfl⟩ hX.wp.o ⟨by decide, rfl⟩ (ev_hasHolding hX.wp) npmX7_hasHolding rfl (nle rfl) ⟨nle rfl, nle rfl⟩ dX11_areTwoHoldings_16 ?_
        rintro _ mz ⟨rfl, hz⟩
        subst mz
        rw [hP.hd, has_in ok.2.2.1 (by decide), ho]
        refine go_c1 ?_
        refine gz_eq (by omega) (tgt := 31) dX11_areTwoHoldings_19 (by decide) (fun h19 => by exfalso; omega) (fun h19 => ?_)
        refine go_iload_n (q := 1) (i := 1) rfl rfl dX11_areTwoHoldings_22 ?_
        refine go_iload_n (q := 2) (i := 2) rfl rfl dX11_areTwoHoldings_23 ?_
        refine gn_eq (by omega) (by omega) (tgt := 31) dX11_areTwoHoldings_24 (by decide) (fun h24 => by exfalso; omega) (fun h24 => ?_)
        refine go_iconst (v := nI 1) (by decide) dX11_areTwoHoldings_27 ?_
        refine go_goto (tgt := 32) dX11_areTwoHoldings_28 (by decide) ?_
        refine go_zret rfl (by decide) ⟨Nat.zero_le _, Nat.zero_le _⟩ dX11_areTwoHoldings_32 ?_
        refine ⟨?_, rfl⟩
        simp only [twS, hh, ho, i10, reduceIte, nI_ne (show i < 2 ^ 31 by omega) (show q < 2 ^ 31 by omega) he]
set_option maxRecDepth 100000 in
set_option maxHeartbeats 8000000 in
theorem ev_lent {m : Me} {pl dr M : Nat} {P : Pl} {r : Nat → Int32} (hX : CX m.1 (gR m) pl dr) (hP : PlC m pl P) (ok : PlOk P) (hM : M < 2 ^ 18) (hr : RoOk P M r) (hc : CR P (gw m 15) r) {h h2 : Int32} : Ev mX11_lent [.ref 0, .int h, .int h2] m (fun o m' => o = some (.int (lentS P r h h2)) ∧ Ch (LkS pl) m m') := by
  refine ⟨plmX11_lent, nle rfl, ?_⟩
  have hw8 := ok.1
  have hr5 := ok.2.1
  have hpd := hX.pd
  have hh4 := ok.2.2.1
  have hu6 := ok.2.2.2.1
  rcases hd_c (n := P.hd) (by omega) h with hh | ⟨i, hi, rfl, hh⟩
  · skip
    refine go_aload_n (q := 0) (i := 0) rfl rfl dX11_lent_0 ?_
    refine go_iload_n (q := 1) (i := 1) rfl rfl dX11_lent_1 ?_
    refine go_iload_n (q := 2) (i := 2) rfl rfl dX11_lent_2 ?_
    refine go_callV okmX11_areTwoHoldings lmX11_198 ⟨nle rfl, nle rfl⟩ hX.o ⟨by decide, rfl⟩ (ev_two hX hP ok) npmX11_areTwoHoldings rfl (nle rfl) ⟨nle rfl, nle rfl⟩ dX11_lent_3 ?_
    rintro _ mz ⟨rfl, hz⟩
    subst mz
    rw [show twS P h h2 = nI 0 from if_pos hh]
    refine go_c1 ?_
    refine gz_eq (by omega) (tgt := 21) dX11_lent_6 (by decide) (fun h6 => ?_) (fun h6 => by exfalso; omega)
    refine go_iconst (v := -1) (by decide) dX11_lent_21 ?_
    refine go_iret rfl ⟨Nat.zero_le _, Nat.zero_le _⟩ dX11_lent_22 ?_
    refine ⟨?_, Ch.rf⟩
    simp only [lentS, hh, i10, reduceIte]
  · skip
    rcases hd_c (n := P.hd) (by omega) h2 with ho | ⟨q, hq, rfl, ho⟩
    · skip
      refine go_aload_n (q := 0) (i := 0) rfl rfl dX11_lent_0 ?_
      refine go_iload_n (q := 1) (i := 1) rfl rfl dX11_lent_1 ?_
      refine go_iload_n (q := 2) (i := 2) rfl rfl dX11_lent_2 ?_
      refine go_callV okmX11_areTwoHoldings lmX11_198 ⟨nle rfl, nle rfl⟩ hX.o ⟨by decide, rfl⟩ (ev_two hX hP ok) npmX11_areTwoHoldings rfl (nle rfl) ⟨nle rfl, nle rfl⟩ dX11_lent_3 ?_
      rintro _ mz ⟨rfl, hz⟩
      subst mz
      rw [show twS P (nI i) h2 = nI 0 from by simp only [twS, hh, ho, i10, reduceIte]]
      refine go_c1 ?_
      refine gz_eq (by omega) (tgt := 21) dX11_lent_6 (by decide) (fun h6 => ?_) (fun h6 => by exfalso; omega)
      refine go_iconst (v := -1) (by decide) dX11_lent_21 ?_
      refine go_iret rfl ⟨Nat.zero_le _, Nat.zero_le _⟩ dX11_lent_22 ?_
      refine ⟨?_, Ch.rf⟩
      simp only [lentS, hh, ho, i10, reduceIte]
    · skip
      by_cases he : i = q
      · skip
        subst he
        refine go_aload_n (q := 0) (i := 0) rfl rfl dX11_lent_0 ?_
        refine go_iload_n (q := 1) (i := 1) rfl rfl dX11_lent_1 ?_
        refine go_iload_n (q := 2) (i := 2) rfl rfl dX11_lent_2 ?_
        refine go_callV okmX11_areTwoHoldings lmX11_198 ⟨nle rfl, nle rfl⟩ hX.o ⟨by decide, rfl⟩ (ev_two hX hP ok) npmX11_areTwoHoldings rfl (nle rfl) ⟨nle rfl, nle rfl⟩ dX11_lent_3 ?_
        rintro _ mz ⟨rfl, hz⟩
        subst mz
        rw [show twS P (nI i) (nI i) = nI 0 from by simp only [twS, hh, i10, reduceIte]]
        refine go_c1 ?_
        refine gz_eq (by omega) (tgt := 21) dX11_lent_6 (by decide) (fun h6 => ?_) (fun h6 => by exfalso; omega)
        refine go_iconst (v := -1) (by decide) dX11_lent_21 ?_
        refine go_iret rfl ⟨Nat.zero_le _, Nat.zero_le _⟩ dX11_lent_22 ?_
        refine ⟨?_, Ch.rf⟩
        simp only [lentS, hh, i10, reduceIte]
      · skip
        refine go_aload_n (q := 0) (i := 0) rfl rfl dX11_lent_0 ?_
        refine go_iload_n (q := 1) (i := 1) rfl rfl dX11_lent_1 ?_
        refine go_iload_n (q := 2) (i := 2) rfl rfl dX11_lent_2 ?_
        refine go_callV okmX11_areTwoHoldings lmX11_198 ⟨nle rfl, nle rfl⟩ hX.o ⟨by decide, rfl⟩ (ev_two hX hP ok) npmX11_areTwoHoldings rfl (nle rfl) ⟨nle rfl, nle rfl⟩ dX11_lent_3 ?_
        rintro _ mz ⟨rfl, hz⟩
        subst mz
        rw [show twS P (nI i) (nI q) = nI 1 from by simp only [twS, hh, ho, i10, reduceIte, nI_ne (show i < 2 ^ 31 by omega) (show q < 2 ^ 31 by omega) he]]
        refine go_c1 ?_
        refine gz_eq (by omega) (tgt := 21) dX11_lent_6 (by decide) (fun h6 => by exfalso; omega) (fun h6 => ?_)
        refine go_aload_n (q := 0) (i := 0) rfl rfl dX11_lent_9 ?_
        refine go_getR lf11_47 rfl hX.o hX.r5 dX11_lent_10 ?_
        refine go_iload_n (q := 1) (i := 1) rfl rfl dX11_lent_13 ?_
        refine go_iload_n (q := 2) (i := 2) rfl rfl dX11_lent_14 ?_
        refine go_callV okmX1_loan lmX11_268 ⟨nle rfl, nle rfl⟩ hX.w5.o ⟨by decide, rfl⟩ (ev_loan hX.w5 (by omega) (by omega)) npmX1_loan rfl (nle rfl) ⟨nle rfl, nle rfl⟩ dX11_lent_15 ?_
        rintro _ mz ⟨rfl, hz⟩
        subst mz
        rw [show gI m (15 + 5) (i * 4 + q) = r (88 + (i * 4 + q)) from (gw_l (by omega)).trans (hc.s (by omega) (by omega))]
        refine go_c1 ?_
        refine go_goto (tgt := 22) dX11_lent_18 (by decide) ?_
        refine go_iret rfl ⟨Nat.zero_le _, Nat.zero_le _⟩ dX11_lent_22 ?_
        refine ⟨?_, Ch.rf⟩
        simp only [lentS, hh, ho, i10, reduceIte, nI_ne (show i < 2 ^ 31 by omega) (show q < 2 ^ 31 by omega) he, nI_clamp (show i < 2 ^ 31 by omega), nI_clamp (show q < 2 ^ 31 by omega)]
set_option maxRecDepth 100000 in
set_option maxHeartbeats 8000000 in
theorem ex_lent {m : Me} {P : Pl} {lv : Nat} (hx : Wf12 m.1 (gR m)) (hm : MdC m P lv) (ok : PlOk P) {h h2 : Int32} : Ev mX12_lent [.ref 274, .int h, .int h2] m (fun o m' => o = some (.int (lentS P (cp 105 (gI m 315) (gI m 316)) h h2)) ∧ Mo m m') := by
  refine ⟨plmX12_lent, nle rfl, ?_⟩
  have hw8 := ok.1
  have hr5 := ok.2.1
  have hlv := hm.lv
  have hh4 := ok.2.2.1
  have hu6 := ok.2.2.2.1
  rcases hd_c (n := P.hd) (by omega) h with hh | ⟨i, hi, rfl, hh⟩
  · skip
    refine go_aload_n (q := 0) (i := 0) rfl rfl dX12_lent_0 ?_
    refine go_iload_n (q := 1) (i := 1) rfl rfl dX12_lent_1 ?_
    refine go_callV okmX12_isHolding lmX12_416 ⟨nle rfl, nle rfl⟩ hx.o ⟨by decide, rfl⟩ (ex_isHolding hx hm) npmX12_isHolding rfl (nle rfl) ⟨nle rfl, nle rfl⟩ dX12_lent_2 ?_
    rintro _ mz ⟨rfl, hz⟩
    subst mz
    rw [hh]
    refine go_c1 ?_
    refine gz_eq (by omega) (tgt := 37) dX12_lent_5 (by decide) (fun h5 => ?_) (fun h5 => by exfalso; omega)
    refine go_iconst (v := -1) (by decide) dX12_lent_37 ?_
    refine go_iret rfl ⟨Nat.zero_le _, Nat.zero_le _⟩ dX12_lent_38 ?_
    refine ⟨?_, Mo.rf⟩
    simp only [lentS, hh, i10, reduceIte]
  · skip
    rcases hd_c (n := P.hd) (by omega) h2 with ho | ⟨q, hq, rfl, ho⟩
    · skip
      refine go_aload_n (q := 0) (i := 0) rfl rfl dX12_lent_0 ?_
      refine go_iload_n (q := 1) (i := 1) rfl rfl dX12_lent_1 ?_
      refine go_callV okmX12_isHolding lmX12_416 ⟨nle rfl, nle rfl⟩ hx.o ⟨by decide, rfl⟩ (ex_isHolding hx hm) npmX12_isHolding rfl (nle rfl) ⟨nle rfl, nle rfl⟩ dX12_lent_2 ?_
      rintro _ mz ⟨rfl, hz⟩
      subst mz
      rw [hh]
      refine go_c1 ?_
      refine gz_eq (by omega) (tgt := 37) dX12_lent_5 (by decide) (fun h5 => by exfalso; omega) (fun h5 => ?_)
      refine go_aload_n (q := 0) (i := 0) rfl rfl dX12_lent_8 ?_
      refine go_iload_n (q := 2) (i := 2) rfl rfl dX12_lent_9 ?_
      refine go_callV okmX12_isHolding lmX12_416 ⟨nle rfl, nle rfl⟩ hx.o ⟨by decide, rfl⟩ (ex_isHolding hx hm) npmX12_isHolding rfl (nle rfl) ⟨nle rfl, nle rfl⟩ dX12_lent_10 ?_
      rintro _ mz ⟨rfl, hz⟩
      subst mz
      rw [ho]
      refine go_c1 ?_
      refine gz_eq (by omega) (tgt := 37) dX12_lent_13 (by decide) (fun h13 => ?_) (fun h13 => by exfalso; omega)
      refine go_iconst (v := -1) (by decide) dX12_lent_37 ?_
      refine go_iret rfl ⟨Nat.zero_le _, Nat.zero_le _⟩ dX12_lent_38 ?_
      refine ⟨?_, Mo.rf⟩
      simp only [lentS, hh, ho, i10, reduceIte]
    · skip
      by_cases he : i = q
      · skip
        subst he
        refine go_aload_n (q := 0) (i := 0) rfl rfl dX12_lent_0 ?_
        refine go_iload_n (q := 1) (i := 1) rfl rfl dX12_lent_1 ?_
        refine go_callV okmX12_isHolding lmX12_416 ⟨nle rfl, nle rfl⟩ hx.o ⟨by decide, rfl⟩ (ex_isHolding hx hm) npmX12_isHolding rfl (nle rfl) ⟨nle rfl, nle rfl⟩ dX12_lent_2 ?_
        rintro _ mz ⟨rfl, hz⟩
        subst mz
        rw [hh]
        refine go_c1 ?_
        refine gz_eq (by omega) (tgt := 37) dX12_lent_5 (by decide) (fun h5 => by exfalso; omega) (fun h5 => ?_)
        refine go_aload_n (q := 0) (i := 0) rfl rfl dX12_lent_8 ?_
        refine go_iload_n (q := 2) (i := 2) rfl rfl dX12_lent_9 ?_
        refine go_callV okmX12_isHolding lmX12_416 ⟨nle rfl, nle rfl⟩ hx.o ⟨by decide, rfl⟩ (ex_isHolding hx hm) npmX12_isHolding rfl (nle rfl) ⟨nle rfl, nle rfl⟩ dX12_lent_10 ?_
        rintro _ mz ⟨rfl, hz⟩
        subst mz
        rw [hh]
        refine go_c1 ?_
        refine gz_eq (by omega) (tgt := 37) dX12_lent_13 (by decide) (fun h13 => by exfalso; omega) (fun h13 => ?_)
        refine go_iload_n (q := 1) (i := 1) rfl rfl dX12_lent_16 ?_
        refine go_iload_n (q := 2) (i := 2) rfl rfl dX12_lent_17 ?_
        refine gn_eq (by omega) (by omega) (tgt := 37) dX12_lent_18 (by decide) (fun h18 => ?_) (fun h18 => by exfalso; omega)
        refine go_iconst (v := -1) (by decide) dX12_lent_37 ?_
        refine go_iret rfl ⟨Nat.zero_le _, Nat.zero_le _⟩ dX12_lent_38 ?_
        refine ⟨?_, Mo.rf⟩
        simp only [lentS, hh, i10, reduceIte]
      · skip
        refine go_aload_n (q := 0) (i := 0) rfl rfl dX12_lent_0 ?_
        refine go_iload_n (q := 1) (i := 1) rfl rfl dX12_lent_1 ?_
        refine go_callV okmX12_isHolding lmX12_416 ⟨nle rfl, nle rfl⟩ hx.o ⟨by decide, rfl⟩ (ex_isHolding hx hm) npmX12_isHolding rfl (nle rfl) ⟨nle rfl, nle rfl⟩ dX12_lent_2 ?_
        rintro _ mz ⟨rfl, hz⟩
        subst mz
        rw [hh]
        refine go_c1 ?_
        refine gz_eq (by omega) (tgt := 37) dX12_lent_5 (by decide) (fun h5 => by exfalso; omega) (fun h5 => ?_)
        refine go_aload_n (q := 0) (i := 0) rfl rfl dX12_lent_8 ?_
        refine go_iload_n (q := 2) (i := 2) rfl rfl dX12_lent_9 ?_
        refine go_callV okmX12_isHolding lmX12_416 ⟨nle rfl, nle rfl⟩ hx.o ⟨by decide, rfl⟩ (ex_isHolding hx hm) npmX12_isHolding rfl (nle rfl) ⟨nle rfl, nle rfl⟩ dX12_lent_10 ?_
        rintro _ mz ⟨rfl, hz⟩
        subst mz
        rw [ho]
        refine go_c1 ?_
        refine gz_eq (by omega) (tgt := 37) dX12_lent_13 (by decide) (fun h13 => by exfalso; omega) (fun h13 => ?_)
        refine go_iload_n (q := 1) (i := 1) rfl rfl dX12_lent_16 ?_
        refine go_iload_n (q := 2) (i := 2) rfl rfl dX12_lent_17 ?_
        refine gn_eq (by omega) (by omega) (tgt := 37) dX12_lent_18 (by decide) (fun h18 => by exfalso; omega) (fun h18 => ?_)
        refine go_aload_n (q := 0) (i := 0) rfl rfl dX12_lent_21 ?_
        refine go_getR lf12_140 rfl hx.o hx.r58 dX12_lent_22 ?_
        refine go_bipush (v := nI 88) (by decide) dX12_lent_25 ?_
        refine go_iconst (v := nI 4) (by decide) dX12_lent_27 ?_
        refine go_iload_n (q := 1) (i := 1) rfl rfl dX12_lent_28 ?_
        refine gn_mul dX12_lent_29 ?_
        refine gn_add dX12_lent_30 ?_
        refine go_iload_n (q := 2) (i := 2) rfl rfl dX12_lent_31 ?_
        refine gn_add dX12_lent_32 ?_
        refine go_iald (j := ((88 + (4 * i)) + q)) hx.i58 (by omega) (by first | decide | omega) rfl dX12_lent_33 ?_
        rw [show gI m 315 (88 + 4 * i + q) = (cp 105 (gI m 315) (gI m 316)) (88 + (i * 4 + q)) from by rw [cp_in (by omega), show 88 + 4 * i + q = 88 + (i * 4 + q) by omega]]
        refine go_goto (tgt := 38) dX12_lent_34 (by decide) ?_
        refine go_iret rfl ⟨Nat.zero_le _, Nat.zero_le _⟩ dX12_lent_38 ?_
        refine ⟨?_, Mo.rf⟩
        simp only [lentS, hh, ho, i10, reduceIte, nI_ne (show i < 2 ^ 31 by omega) (show q < 2 ^ 31 by omega) he, nI_clamp (show i < 2 ^ 31 by omega), nI_clamp (show q < 2 ^ 31 by omega)]
set_option maxRecDepth 100000 in
set_option maxHeartbeats 8000000 in
theorem ev_year {m : Me} {pl dr M : Nat} {P : Pl} {r : Nat → Int32} (hX : CX m.1 (gR m) pl dr) (hP : PlC m pl P) (ok : PlOk P) (hM : M < 2 ^ 18) (hr : RoOk P M r) (hc : CR P (gw m 15) r) {u n s : Int32} : Ev mX11_year [.ref 0, .int u, .int n, .int s] m (fun o m' => o = some (.int (yearS P r u n s)) ∧ Ch (LkS pl) m m') := by
  refine ⟨plmX11_year, nle rfl, ?_⟩
  have hw8 := ok.1
  have hr5 := ok.2.1
  have hpd := hX.pd
  have hh4 := ok.2.2.1
  have hu6 := ok.2.2.2.1
  rcases hd_c (n := P.us) (by omega) u with hu | ⟨i0, hi0, rfl, hu⟩
  · skip
    refine go_aload_n (q := 0) (i := 0) rfl rfl dX11_year_0 ?_
    refine go_getR lf11_86 rfl hX.o hX.rp dX11_year_1 ?_
    refine go_iload_n (q := 1) (i := 1) rfl rfl dX11_year_4 ?_
    refine go_callV okmX7_hasUse lmX11_175 ⟨nle rfl, nle rfl⟩ hX.wp.o ⟨by decide, rfl⟩ (ev_hasUse hX.wp) npmX7_hasUse rfl (nle rfl) ⟨nle rfl, nle rfl⟩ dX11_year_5 ?_
    rintro _ mz ⟨rfl, hz⟩
    subst mz
    rw [hP.us, has_in ok.2.2.2.1 (by decide), hu]
    refine go_c1 ?_
    refine gz_eq (by omega) (tgt := 29) dX11_year_8 (by decide) (fun h8 => ?_) (fun h8 => by exfalso; omega)
    refine go_iconst (v := -1) (by decide) dX11_year_29 ?_
    refine go_iret rfl ⟨Nat.zero_le _, Nat.zero_le _⟩ dX11_year_30 ?_
    refine ⟨?_, Ch.rf⟩
    simp only [yearS, hu, i10, reduceIte]
  · skip
    rcases in_c n (N := 72) (by decide) with hn | ⟨j, hj, rfl, hn⟩
    · skip
      refine go_aload_n (q := 0) (i := 0) rfl rfl dX11_year_0 ?_
      refine go_getR lf11_86 rfl hX.o hX.rp dX11_year_1 ?_
      refine go_iload_n (q := 1) (i := 1) rfl rfl dX11_year_4 ?_
      refine go_callV okmX7_hasUse lmX11_175 ⟨nle rfl, nle rfl⟩ hX.wp.o ⟨by decide, rfl⟩ (ev_hasUse hX.wp) npmX7_hasUse rfl (nle rfl) ⟨nle rfl, nle rfl⟩ dX11_year_5 ?_
      rintro _ mz ⟨rfl, hz⟩
      subst mz
      rw [hP.us, has_in ok.2.2.2.1 (by decide), hu]
      refine go_c1 ?_
      refine gz_eq (by omega) (tgt := 29) dX11_year_8 (by decide) (fun h8 => by exfalso; omega) (fun h8 => ?_)
      refine go_iload_n (q := 2) (i := 2) rfl rfl dX11_year_11 ?_
      refine go_callS okmX11_isAhead lmX11_219 ⟨nle rfl, nle rfl⟩ (ev_isAhead) npmX11_isAhead rfl (nle rfl) ⟨nle rfl, nle rfl⟩ dX11_year_12 ?_
      rintro _ mz ⟨rfl, hz⟩
      subst mz
      rw [ah_in, hn]
      refine go_c1 ?_
      refine gz_eq (by omega) (tgt := 29) dX11_year_15 (by decide) (fun h15 => ?_) (fun h15 => by exfalso; omega)
      refine go_iconst (v := -1) (by decide) dX11_year_29 ?_
      refine go_iret rfl ⟨Nat.zero_le _, Nat.zero_le _⟩ dX11_year_30 ?_
      refine ⟨?_, Ch.rf⟩
      simp only [yearS, hu, hn, i10, reduceIte]
    · skip
      rcases in_c s (N := 20) (by decide) with hs | ⟨z, hz20, rfl, hs⟩
      · skip
        refine go_aload_n (q := 0) (i := 0) rfl rfl dX11_year_0 ?_
        refine go_getR lf11_86 rfl hX.o hX.rp dX11_year_1 ?_
        refine go_iload_n (q := 1) (i := 1) rfl rfl dX11_year_4 ?_
        refine go_callV okmX7_hasUse lmX11_175 ⟨nle rfl, nle rfl⟩ hX.wp.o ⟨by decide, rfl⟩ (ev_hasUse hX.wp) npmX7_hasUse rfl (nle rfl) ⟨nle rfl, nle rfl⟩ dX11_year_5 ?_
        rintro _ mz ⟨rfl, hz⟩
        subst mz
        rw [hP.us, has_in ok.2.2.2.1 (by decide), hu]
        refine go_c1 ?_
        refine gz_eq (by omega) (tgt := 29) dX11_year_8 (by decide) (fun h8 => by exfalso; omega) (fun h8 => ?_)
        refine go_iload_n (q := 2) (i := 2) rfl rfl dX11_year_11 ?_
        refine go_callS okmX11_isAhead lmX11_219 ⟨nle rfl, nle rfl⟩ (ev_isAhead) npmX11_isAhead rfl (nle rfl) ⟨nle rfl, nle rfl⟩ dX11_year_12 ?_
        rintro _ mz ⟨rfl, hz⟩
        subst mz
        rw [ah_in, hn]
        refine go_c1 ?_
        refine gz_eq (by omega) (tgt := 29) dX11_year_15 (by decide) (fun h15 => by exfalso; omega) (fun h15 => ?_)
        refine go_iload_n (q := 3) (i := 3) rfl rfl dX11_year_18 ?_
        refine go_iconst (v := nI 1) (by decide) dX11_year_19 ?_
        refine go_icmp_lt (tgt := 29) dX11_year_20 (by decide) (fun h20 => ?_) (fun h20 => ?_)
        · skip
          refine go_iconst (v := -1) (by decide) dX11_year_29 ?_
          refine go_iret rfl ⟨Nat.zero_le _, Nat.zero_le _⟩ dX11_year_30 ?_
          refine ⟨?_, Ch.rf⟩
          simp only [yearS, hu, hn, in1_n hs, i10, reduceIte]
        · skip
          refine go_iload_n (q := 3) (i := 3) rfl rfl dX11_year_23 ?_
          refine go_bipush (v := nI 20) (by decide) dX11_year_24 ?_
          refine go_icmp_le (tgt := 31) dX11_year_26 (by decide) (fun h26 => by exfalso; exact (in_n hs).elim (fun q => h20 (Int32.lt_trans q (by decide))) (fun q => absurd q (Int32.not_lt.mpr h26))) (fun h26 => ?_)
          refine go_iconst (v := -1) (by decide) dX11_year_29 ?_
          refine go_iret rfl ⟨Nat.zero_le _, Nat.zero_le _⟩ dX11_year_30 ?_
          refine ⟨?_, Ch.rf⟩
          simp only [yearS, hu, hn, in1_n hs, i10, reduceIte]
      · skip
        rcases (show z = 0 ∨ 1 ≤ z by omega) with rfl | hz1
        · skip
          refine go_aload_n (q := 0) (i := 0) rfl rfl dX11_year_0 ?_
          refine go_getR lf11_86 rfl hX.o hX.rp dX11_year_1 ?_
          refine go_iload_n (q := 1) (i := 1) rfl rfl dX11_year_4 ?_
          refine go_callV okmX7_hasUse lmX11_175 ⟨nle rfl, nle rfl⟩ hX.wp.o ⟨by decide, rfl⟩ (ev_hasUse hX.wp) npmX7_hasUse rfl (nle rfl) ⟨nle rfl, nle rfl⟩ dX11_year_5 ?_
          rintro _ mz ⟨rfl, hz⟩
          subst mz
          rw [hP.us, has_in ok.2.2.2.1 (by decide), hu]
          refine go_c1 ?_
          refine gz_eq (by omega) (tgt := 29) dX11_year_8 (by decide) (fun h8 => by exfalso; omega) (fun h8 => ?_)
          refine go_iload_n (q := 2) (i := 2) rfl rfl dX11_year_11 ?_
          refine go_callS okmX11_isAhead lmX11_219 ⟨nle rfl, nle rfl⟩ (ev_isAhead) npmX11_isAhead rfl (nle rfl) ⟨nle rfl, nle rfl⟩ dX11_year_12 ?_
          rintro _ mz ⟨rfl, hz⟩
          subst mz
          rw [ah_in, hn]
          refine go_c1 ?_
          refine gz_eq (by omega) (tgt := 29) dX11_year_15 (by decide) (fun h15 => by exfalso; omega) (fun h15 => ?_)
          refine go_iload_n (q := 3) (i := 3) rfl rfl dX11_year_18 ?_
          refine go_iconst (v := nI 1) (by decide) dX11_year_19 ?_
          refine gn_lt (by omega) (by omega) (tgt := 29) dX11_year_20 (by decide) (fun h20 => ?_) (fun h20 => by exfalso; omega)
          refine go_iconst (v := -1) (by decide) dX11_year_29 ?_
          refine go_iret rfl ⟨Nat.zero_le _, Nat.zero_le _⟩ dX11_year_30 ?_
          refine ⟨?_, Ch.rf⟩
          simp only [yearS, hu, hn, show inS (nI 0) (nI 1) (nI 20) = nI 0 from by decide, i10, reduceIte]
        · skip
          have key : ∀ i, i ≤ z → ∀ mi : Me, Ch (LkS pl) m mi → Go mX11_year (fun o m' => o = some (.int (yearS P r (nI i0) (nI j) (nI z))) ∧ Ch (LkS pl) m m') 37 [some (.ref 0), some (.int (nI i0)), some (.int (nI j)), some (.int (nI z)), some (.int (nI (cnt (fun i => svS P (hrN P (-1) (P.se + nI i) j r) i0 = nI 1) i))), some (.int (nI i))] [] mi 0 0 := by
            refine loop_up z ?_ ?_
            · intro mi c1
              have hX0 := hX
              have hX := CX.to c1 hX
              have hP := hP.lk hX0 c1
              have hcl := cnt_le (p := (fun i => svS P (hrN P (-1) (P.se + nI i) j r) i0 = nI 1)) z
              refine go_iload (i := 5) rfl dX11_year_37 ?_
              refine go_iload_n (q := 3) (i := 3) rfl rfl dX11_year_39 ?_
              refine gn_ge (by omega) (by omega) (tgt := 90) dX11_year_40 (by decide) (fun h40 => ?_) (fun h40 => by exfalso; omega)
              refine go_iload (i := 4) rfl dX11_year_90 ?_
              refine go_iret rfl ⟨Nat.zero_le _, Nat.zero_le _⟩ dX11_year_92 ?_
              refine ⟨?_, c1⟩
              simp only [yearS, hu, hn, in1_j hz1 hz20 (by decide), i10, reduceIte, nI_clamp (show j < 2 ^ 31 by omega), nI_clamp (show i0 < 2 ^ 31 by omega), nI_clamp (show z < 2 ^ 31 by omega)]
            · intro i hi ih mi c1
              have hX0 := hX
              have hX := CX.to c1 hX
              have hP := hP.lk hX0 c1
              have hcl := cnt_le (p := (fun i => svS P (hrN P (-1) (P.se + nI i) j r) i0 = nI 1)) i
              refine go_iload (i := 5) rfl dX11_year_37 ?_
              refine go_iload_n (q := 3) (i := 3) rfl rfl dX11_year_39 ?_
              refine gn_ge (by omega) (by omega) (tgt := 90) dX11_year_40 (by decide) (fun h40 => by exfalso; omega) (fun h40 => ?_)
              refine go_aload_n (q := 0) (i := 0) rfl rfl dX11_year_43 ?_
              refine go_getR lf11_51 rfl hX.o hX.r6 dX11_year_44 ?_
              refine go_aload_n (q := 0) (i := 0) rfl rfl dX11_year_47 ?_
              refine go_getR lf11_47 rfl hX.o hX.r5 dX11_year_48 ?_
              refine go_callV okmX1_copyFrom lmX11_205 ⟨nle rfl, nle rfl⟩ hX.w6.o ⟨by decide, rfl⟩ (ev_copyFrom hX.w6 hX.w5 (by omega)) npmX1_copyFrom rfl (nle rfl) ⟨nle rfl, nle rfl⟩ dX11_year_51 ?_
              rintro _ m2 ⟨rfl, cA, eA⟩
              have cA : Ch (LkS pl) mi m2 := cA.mn (fun x hx => by unfold LkS; omega)
              have hP := hP.lk hX cA
              have hX := CX.to cA hX
              have hc2 : CR P (gw m2 21) r := by rw [eA]; exact hc.gwto c1 hpd
              refine go_c0 ?_
              refine go_aload_n (q := 0) (i := 0) rfl rfl dX11_year_54 ?_
              refine go_iload_n (q := 2) (i := 2) rfl rfl dX11_year_55 ?_
              refine go_aload_n (q := 0) (i := 0) rfl rfl dX11_year_56 ?_
              refine go_getR lf11_86 rfl hX.o hX.rp dX11_year_57 ?_
              refine go_getI lf11_208 rfl hX.wp.o dX11_year_60 ?_
              rw [hP.se]
              refine go_iload (i := 5) rfl dX11_year_63 ?_
              refine go_iadd dX11_year_65 ?_
              refine go_callV okmX11_passLater lmX11_211 ⟨nle rfl, nle rfl⟩ hX.o ⟨by decide, rfl⟩ (ev_passLater (M := M) hX hP ok (by omega) hM hr hc2) npmX11_passLater rfl (nle rfl) ⟨nle rfl, nle rfl⟩ dX11_year_66 ?_
              rintro _ m3 ⟨rfl, cB, hc3⟩
              have c2 : Ch (LkS pl) mi m3 := cA.tr cB
              have hP := hP.lk hX cB
              have hX := CX.to cB hX
              refine go_c0 ?_
              refine go_aload_n (q := 0) (i := 0) rfl rfl dX11_year_69 ?_
              refine go_aload_n (q := 0) (i := 0) rfl rfl dX11_year_70 ?_
              refine go_getR lf11_51 rfl hX.o hX.r6 dX11_year_71 ?_
              refine go_iload_n (q := 1) (i := 1) rfl rfl dX11_year_74 ?_
              refine go_callV okmX11_isServed lmX11_242 ⟨nle rfl, nle rfl⟩ hX.o ⟨by decide, rfl⟩ (ev_isServed hX hP ok hX.w6 hi0 hc3) npmX11_isServed rfl (nle rfl) ⟨nle rfl, nle rfl⟩ dX11_year_75 ?_
              rintro _ mz ⟨rfl, hz⟩
              subst mz
              refine go_c1 ?_
              refine go_if_eq (tgt := 84) dX11_year_78 (by decide) (fun h78 => ?_) (fun h78 => ?_)
              · skip
                refine gn_inc (i := 5) (a := i) (q := 1) rfl dX11_year_84 (nle rfl) rfl ?_
                refine go_goto (tgt := 37) dX11_year_87 (by decide) ?_
                rw [show cnt (fun i => svS P (hrN P (-1) (P.se + nI i) j r) i0 = nI 1) i = cnt (fun i => svS P (hrN P (-1) (P.se + nI i) j r) i0 = nI 1) (i + 1) from (cnt_f (show ¬ svS P (hrN P (-1) (P.se + nI i) j r) i0 = nI 1 from fun q => absurd (q.symm.trans (h78.trans nI_0.symm)) (by decide))).symm]
                exact ih _ (c1.tr c2)
              · skip
                refine gn_inc (i := 4) (a := cnt (fun i => svS P (hrN P (-1) (P.se + nI i) j r) i0 = nI 1) i) (q := 1) rfl dX11_year_81 (nle rfl) rfl ?_
                refine gn_inc (i := 5) (a := i) (q := 1) rfl dX11_year_84 (nle rfl) rfl ?_
                refine go_goto (tgt := 37) dX11_year_87 (by decide) ?_
                rw [show cnt (fun i => svS P (hrN P (-1) (P.se + nI i) j r) i0 = nI 1) i + 1 = cnt (fun i => svS P (hrN P (-1) (P.se + nI i) j r) i0 = nI 1) (i + 1) from (cnt_t (is_1 (sv01 _ _ _) (fun q => h78 (q.trans nI_0)))).symm]
                exact ih _ (c1.tr c2)
          refine go_aload_n (q := 0) (i := 0) rfl rfl dX11_year_0 ?_
          refine go_getR lf11_86 rfl hX.o hX.rp dX11_year_1 ?_
          refine go_iload_n (q := 1) (i := 1) rfl rfl dX11_year_4 ?_
          refine go_callV okmX7_hasUse lmX11_175 ⟨nle rfl, nle rfl⟩ hX.wp.o ⟨by decide, rfl⟩ (ev_hasUse hX.wp) npmX7_hasUse rfl (nle rfl) ⟨nle rfl, nle rfl⟩ dX11_year_5 ?_
          rintro _ mz ⟨rfl, hz⟩
          subst mz
          rw [hP.us, has_in ok.2.2.2.1 (by decide), hu]
          refine go_c1 ?_
          refine gz_eq (by omega) (tgt := 29) dX11_year_8 (by decide) (fun h8 => by exfalso; omega) (fun h8 => ?_)
          refine go_iload_n (q := 2) (i := 2) rfl rfl dX11_year_11 ?_
          refine go_callS okmX11_isAhead lmX11_219 ⟨nle rfl, nle rfl⟩ (ev_isAhead) npmX11_isAhead rfl (nle rfl) ⟨nle rfl, nle rfl⟩ dX11_year_12 ?_
          rintro _ mz ⟨rfl, hz⟩
          subst mz
          rw [ah_in, hn]
          refine go_c1 ?_
          refine gz_eq (by omega) (tgt := 29) dX11_year_15 (by decide) (fun h15 => by exfalso; omega) (fun h15 => ?_)
          refine go_iload_n (q := 3) (i := 3) rfl rfl dX11_year_18 ?_
          refine go_iconst (v := nI 1) (by decide) dX11_year_19 ?_
          refine gn_lt (by omega) (by omega) (tgt := 29) dX11_year_20 (by decide) (fun h20 => by exfalso; omega) (fun h20 => ?_)
          refine go_iload_n (q := 3) (i := 3) rfl rfl dX11_year_23 ?_
          refine go_bipush (v := nI 20) (by decide) dX11_year_24 ?_
          refine gn_le (by omega) (by omega) (tgt := 31) dX11_year_26 (by decide) (fun h26 => ?_) (fun h26 => by exfalso; omega)
          refine go_iconst (v := nI 0) (by decide) dX11_year_31 ?_
          refine go_istore (i := 4) dX11_year_32 (nle rfl) (nle rfl) ?_
          refine go_iconst (v := nI 0) (by decide) dX11_year_34 ?_
          refine go_istore (i := 5) dX11_year_35 (nle rfl) (nle rfl) ?_
          exact key 0 (Nat.zero_le _) m Ch.rf
set_option maxRecDepth 100000 in
set_option maxHeartbeats 8000000 in
theorem ex_year {m : Me} {P : Pl} {lv : Nat} (hx : Wf12 m.1 (gR m)) (hm : MdC m P lv) (ok : PlOk P) {u n s : Int32} : Ev mX12_year [.ref 274, .int u, .int n, .int s] m (fun o m' => o = some (.int (yearS P (cp 105 (gI m 315) (gI m 316)) u n s)) ∧ Mo m m') := by
  refine ⟨plmX12_year, nle rfl, ?_⟩
  have hw8 := ok.1
  have hr5 := ok.2.1
  have hlv := hm.lv
  have hh4 := ok.2.2.1
  have hu6 := ok.2.2.2.1
  rcases hd_c (n := P.us) (by omega) u with hu | ⟨i0, hi0, rfl, hu⟩
  · skip
    refine go_aload_n (q := 0) (i := 0) rfl rfl dX12_year_0 ?_
    refine go_iload_n (q := 1) (i := 1) rfl rfl dX12_year_1 ?_
    refine go_callV okmX12_isUse lmX12_429 ⟨nle rfl, nle rfl⟩ hx.o ⟨by decide, rfl⟩ (ex_isUse hx hm) npmX12_isUse rfl (nle rfl) ⟨nle rfl, nle rfl⟩ dX12_year_2 ?_
    rintro _ mz ⟨rfl, hz⟩
    subst mz
    rw [hu]
    refine go_c1 ?_
    refine gz_eq (by omega) (tgt := 25) dX12_year_5 (by decide) (fun h5 => ?_) (fun h5 => by exfalso; omega)
    refine go_iconst (v := -1) (by decide) dX12_year_25 ?_
    refine go_iret rfl ⟨Nat.zero_le _, Nat.zero_le _⟩ dX12_year_26 ?_
    refine ⟨?_, Mo.rf⟩
    simp only [yearS, hu, i10, reduceIte]
  · skip
    rcases in_c n (N := 72) (by decide) with hn | ⟨j, hj, rfl, hn⟩
    · skip
      refine go_aload_n (q := 0) (i := 0) rfl rfl dX12_year_0 ?_
      refine go_iload_n (q := 1) (i := 1) rfl rfl dX12_year_1 ?_
      refine go_callV okmX12_isUse lmX12_429 ⟨nle rfl, nle rfl⟩ hx.o ⟨by decide, rfl⟩ (ex_isUse hx hm) npmX12_isUse rfl (nle rfl) ⟨nle rfl, nle rfl⟩ dX12_year_2 ?_
      rintro _ mz ⟨rfl, hz⟩
      subst mz
      rw [hu]
      refine go_c1 ?_
      refine gz_eq (by omega) (tgt := 25) dX12_year_5 (by decide) (fun h5 => by exfalso; omega) (fun h5 => ?_)
      refine go_iload_n (q := 2) (i := 2) rfl rfl dX12_year_8 ?_
      refine go_callS okmX12_isLong lmX12_441 ⟨nle rfl, nle rfl⟩ (ex_isLong) npmX12_isLong rfl (nle rfl) ⟨nle rfl, nle rfl⟩ dX12_year_9 ?_
      rintro _ mz ⟨rfl, hz⟩
      subst mz
      rw [hn]
      refine go_c1 ?_
      refine gz_eq (by omega) (tgt := 25) dX12_year_12 (by decide) (fun h12 => ?_) (fun h12 => by exfalso; omega)
      refine go_iconst (v := -1) (by decide) dX12_year_25 ?_
      refine go_iret rfl ⟨Nat.zero_le _, Nat.zero_le _⟩ dX12_year_26 ?_
      refine ⟨?_, Mo.rf⟩
      simp only [yearS, hu, hn, i10, reduceIte]
    · skip
      rcases in_c s (N := 20) (by decide) with hs | ⟨z, hz20, rfl, hs⟩
      · skip
        refine go_aload_n (q := 0) (i := 0) rfl rfl dX12_year_0 ?_
        refine go_iload_n (q := 1) (i := 1) rfl rfl dX12_year_1 ?_
        refine go_callV okmX12_isUse lmX12_429 ⟨nle rfl, nle rfl⟩ hx.o ⟨by decide, rfl⟩ (ex_isUse hx hm) npmX12_isUse rfl (nle rfl) ⟨nle rfl, nle rfl⟩ dX12_year_2 ?_
        rintro _ mz ⟨rfl, hz⟩
        subst mz
        rw [hu]
        refine go_c1 ?_
        refine gz_eq (by omega) (tgt := 25) dX12_year_5 (by decide) (fun h5 => by exfalso; omega) (fun h5 => ?_)
        refine go_iload_n (q := 2) (i := 2) rfl rfl dX12_year_8 ?_
        refine go_callS okmX12_isLong lmX12_441 ⟨nle rfl, nle rfl⟩ (ex_isLong) npmX12_isLong rfl (nle rfl) ⟨nle rfl, nle rfl⟩ dX12_year_9 ?_
        rintro _ mz ⟨rfl, hz⟩
        subst mz
        rw [hn]
        refine go_c1 ?_
        refine gz_eq (by omega) (tgt := 25) dX12_year_12 (by decide) (fun h12 => by exfalso; omega) (fun h12 => ?_)
        refine go_iload_n (q := 3) (i := 3) rfl rfl dX12_year_15 ?_
        refine go_iconst (v := nI 1) (by decide) dX12_year_16 ?_
        refine go_bipush (v := nI 20) (by decide) dX12_year_17 ?_
        refine go_callS okmX12_in lmX12_361 ⟨nle rfl, nle rfl⟩ (ex_in) npmX12_in rfl (nle rfl) ⟨nle rfl, nle rfl⟩ dX12_year_19 ?_
        rintro _ mz ⟨rfl, hz⟩
        subst mz
        rw [in1_n hs]
        refine go_c1 ?_
        refine gz_ne (by omega) (tgt := 27) dX12_year_22 (by decide) (fun h22 => by exfalso; omega) (fun h22 => ?_)
        refine go_iconst (v := -1) (by decide) dX12_year_25 ?_
        refine go_iret rfl ⟨Nat.zero_le _, Nat.zero_le _⟩ dX12_year_26 ?_
        refine ⟨?_, Mo.rf⟩
        simp only [yearS, hu, hn, in1_n hs, i10, reduceIte]
      · skip
        rcases (show z = 0 ∨ 1 ≤ z by omega) with rfl | hz1
        · skip
          refine go_aload_n (q := 0) (i := 0) rfl rfl dX12_year_0 ?_
          refine go_iload_n (q := 1) (i := 1) rfl rfl dX12_year_1 ?_
          refine go_callV okmX12_isUse lmX12_429 ⟨nle rfl, nle rfl⟩ hx.o ⟨by decide, rfl⟩ (ex_isUse hx hm) npmX12_isUse rfl (nle rfl) ⟨nle rfl, nle rfl⟩ dX12_year_2 ?_
          rintro _ mz ⟨rfl, hz⟩
          subst mz
          rw [hu]
          refine go_c1 ?_
          refine gz_eq (by omega) (tgt := 25) dX12_year_5 (by decide) (fun h5 => by exfalso; omega) (fun h5 => ?_)
          refine go_iload_n (q := 2) (i := 2) rfl rfl dX12_year_8 ?_
          refine go_callS okmX12_isLong lmX12_441 ⟨nle rfl, nle rfl⟩ (ex_isLong) npmX12_isLong rfl (nle rfl) ⟨nle rfl, nle rfl⟩ dX12_year_9 ?_
          rintro _ mz ⟨rfl, hz⟩
          subst mz
          rw [hn]
          refine go_c1 ?_
          refine gz_eq (by omega) (tgt := 25) dX12_year_12 (by decide) (fun h12 => by exfalso; omega) (fun h12 => ?_)
          refine go_iload_n (q := 3) (i := 3) rfl rfl dX12_year_15 ?_
          refine go_iconst (v := nI 1) (by decide) dX12_year_16 ?_
          refine go_bipush (v := nI 20) (by decide) dX12_year_17 ?_
          refine go_callS okmX12_in lmX12_361 ⟨nle rfl, nle rfl⟩ (ex_in) npmX12_in rfl (nle rfl) ⟨nle rfl, nle rfl⟩ dX12_year_19 ?_
          rintro _ mz ⟨rfl, hz⟩
          subst mz
          rw [show inS (nI 0) (nI 1) (nI 20) = nI 0 from by decide]
          refine go_c1 ?_
          refine gz_ne (by omega) (tgt := 27) dX12_year_22 (by decide) (fun h22 => by exfalso; omega) (fun h22 => ?_)
          refine go_iconst (v := -1) (by decide) dX12_year_25 ?_
          refine go_iret rfl ⟨Nat.zero_le _, Nat.zero_le _⟩ dX12_year_26 ?_
          refine ⟨?_, Mo.rf⟩
          simp only [yearS, hu, hn, show inS (nI 0) (nI 1) (nI 20) = nI 0 from by decide, i10, reduceIte]
        · skip
          have key : ∀ i, i ≤ z → ∀ mi : Me, Mo m mi → (∀ k, 105 ≤ k → gI mi 316 k = gI m 316 k) → Go mX12_year (fun o m' => o = some (.int (yearS P (cp 105 (gI m 315) (gI m 316)) (nI i0) (nI j) (nI z))) ∧ Mo m m') 33 [some (.ref 274), some (.int (nI i0)), some (.int (nI j)), some (.int (nI z)), some (.int (nI (cnt (fun i => svS P (hrN P (-1) (P.se + nI i) j (cp 105 (gI m 315) (gI m 316))) i0 = nI 1) i))), some (.int (nI i))] [] mi 0 0 := by
            refine loop_up z ?_ ?_
            · intro mi c1 go
              have hx := c1.wf hx
              have hm := c1.md hm
              have hx0 := hx
              have hm0 := hm
              have hcl := cnt_le (p := (fun i => svS P (hrN P (-1) (P.se + nI i) j (cp 105 (gI m 315) (gI m 316))) i0 = nI 1)) z
              refine go_iload (i := 5) rfl dX12_year_33 ?_
              refine go_iload_n (q := 3) (i := 3) rfl rfl dX12_year_35 ?_
              refine gn_ge (by omega) (by omega) (tgt := 76) dX12_year_36 (by decide) (fun h36 => ?_) (fun h36 => by exfalso; omega)
              refine go_iload (i := 4) rfl dX12_year_76 ?_
              refine go_iret rfl ⟨Nat.zero_le _, Nat.zero_le _⟩ dX12_year_78 ?_
              refine ⟨?_, c1⟩
              simp only [yearS, hu, hn, in1_j hz1 hz20 (by decide), i10, reduceIte, nI_clamp (show j < 2 ^ 31 by omega), nI_clamp (show i0 < 2 ^ 31 by omega), nI_clamp (show z < 2 ^ 31 by omega)]
            · intro i hi ih mi c1 go
              have hx := c1.wf hx
              have hm := c1.md hm
              have hx0 := hx
              have hm0 := hm
              have hcl := cnt_le (p := (fun i => svS P (hrN P (-1) (P.se + nI i) j (cp 105 (gI m 315) (gI m 316))) i0 = nI 1)) i
              refine go_iload (i := 5) rfl dX12_year_33 ?_
              refine go_iload_n (q := 3) (i := 3) rfl rfl dX12_year_35 ?_
              refine gn_ge (by omega) (by omega) (tgt := 76) dX12_year_36 (by decide) (fun h36 => by exfalso; omega) (fun h36 => ?_)
              refine go_aload_n (q := 0) (i := 0) rfl rfl dX12_year_39 ?_
              refine go_callV okmX12_copies lmX12_413 ⟨nle rfl, nle rfl⟩ hx.o ⟨by decide, rfl⟩ (ex_copies hx hm) npmX12_copies rfl (nle rfl) ⟨nle rfl, nle rfl⟩ dX12_year_40 ?_
              rintro _ m1 ⟨rfl, cA, e1, s1, l1, -⟩
              have e1 : gI m1 316 = (cp 105 (gI m 315) (gI m 316)) := by
                rw [e1, c1.1.at (show ¬ _ by omega), cp_same go]
              have hx := cA.wf hx
              have hm := cA.md hm
              refine go_c0 ?_
              refine go_aload_n (q := 0) (i := 0) rfl rfl dX12_year_43 ?_
              refine go_dup rfl dX12_year_44 ?_
              refine go_getI lf12_365 rfl hx.o dX12_year_45 ?_
              refine go_iload (i := 5) rfl dX12_year_48 ?_
              refine go_iadd dX12_year_50 ?_
              refine go_putI lf12_365 rfl (Or.inl rfl) hx.o dX12_year_51 ?_
              rw [s1]
              generalize hmA : sI m1 274 _ = mA
              have eA1 : gI mA 274 61 = -1 := by rw [← hmA, gI_s, upd_ne (by decide)]; exact l1
              have eA2 : gI mA 274 60 = P.se + nI i := by rw [← hmA, gI_s, upd_eq]
              have eA3 : gI mA 316 = (cp 105 (gI m 315) (gI m 316)) := by rw [← hmA, gI_n (by decide)]; exact e1
              have cC : Mo mi mA := cA.tr ⟨by rw [← hmA]; exact Ch.I (Or.inl rfl), fun k a b c => by rw [← hmA, gI_s, upd_ne b]⟩
              have hx := cC.wf hx0
              have hm := cC.md hm0
              refine go_aload_n (q := 0) (i := 0) rfl rfl dX12_year_54 ?_
              refine go_iload_n (q := 2) (i := 2) rfl rfl dX12_year_55 ?_
              refine go_callV okmX12_goes lmX12_438 ⟨nle rfl, nle rfl⟩ hx.o ⟨by decide, rfl⟩ (ex_goes hx hm ok (by omega)) npmX12_goes rfl (nle rfl) ⟨nle rfl, nle rfl⟩ dX12_year_56 ?_
              rintro _ m3 ⟨rfl, cB, e3⟩
              have e3 : gI m3 316 = hrN P (-1) (P.se + nI i) j (cp 105 (gI m 315) (gI m 316)) := by rw [e3, eA1, eA2, eA3]
              have c3 : Mo mi m3 := cC.tr cB.1
              have hx := cB.1.wf hx
              have hm := cB.1.md hm
              refine go_c0 ?_
              refine go_aload_n (q := 0) (i := 0) rfl rfl dX12_year_59 ?_
              refine go_iload_n (q := 1) (i := 1) rfl rfl dX12_year_60 ?_
              refine go_callV okmX12_isServed lmX12_450 ⟨nle rfl, nle rfl⟩ hx.o ⟨by decide, rfl⟩ (ex_isServed hx hm ok hi0) npmX12_isServed rfl (nle rfl) ⟨nle rfl, nle rfl⟩ dX12_year_61 ?_
              rintro _ mz ⟨rfl, hz⟩
              subst mz
              rw [e3]
              refine go_c1 ?_
              refine go_if_eq (tgt := 70) dX12_year_64 (by decide) (fun h64 => ?_) (fun h64 => ?_)
              · skip
                refine gn_inc (i := 5) (a := i) (q := 1) rfl dX12_year_70 (nle rfl) rfl ?_
                refine go_goto (tgt := 33) dX12_year_73 (by decide) ?_
                rw [show cnt (fun i => svS P (hrN P (-1) (P.se + nI i) j (cp 105 (gI m 315) (gI m 316))) i0 = nI 1) i = cnt (fun i => svS P (hrN P (-1) (P.se + nI i) j (cp 105 (gI m 315) (gI m 316))) i0 = nI 1) (i + 1) from (cnt_f (show ¬ svS P (hrN P (-1) (P.se + nI i) j (cp 105 (gI m 315) (gI m 316))) i0 = nI 1 from fun q => absurd (q.symm.trans (h64.trans nI_0.symm)) (by decide))).symm]
                exact ih _ (c1.tr c3) (fun k hk => by rw [e3, hrN_out hh4 hk, cp_out hk])
              · skip
                refine gn_inc (i := 4) (a := cnt (fun i => svS P (hrN P (-1) (P.se + nI i) j (cp 105 (gI m 315) (gI m 316))) i0 = nI 1) i) (q := 1) rfl dX12_year_67 (nle rfl) rfl ?_
                refine gn_inc (i := 5) (a := i) (q := 1) rfl dX12_year_70 (nle rfl) rfl ?_
                refine go_goto (tgt := 33) dX12_year_73 (by decide) ?_
                rw [show cnt (fun i => svS P (hrN P (-1) (P.se + nI i) j (cp 105 (gI m 315) (gI m 316))) i0 = nI 1) i + 1 = cnt (fun i => svS P (hrN P (-1) (P.se + nI i) j (cp 105 (gI m 315) (gI m 316))) i0 = nI 1) (i + 1) from (cnt_t (is_1 (sv01 _ _ _) (fun q => h64 (q.trans nI_0)))).symm]
                exact ih _ (c1.tr c3) (fun k hk => by rw [e3, hrN_out hh4 hk, cp_out hk])
          refine go_aload_n (q := 0) (i := 0) rfl rfl dX12_year_0 ?_
          refine go_iload_n (q := 1) (i := 1) rfl rfl dX12_year_1 ?_
          refine go_callV okmX12_isUse lmX12_429 ⟨nle rfl, nle rfl⟩ hx.o ⟨by decide, rfl⟩ (ex_isUse hx hm) npmX12_isUse rfl (nle rfl) ⟨nle rfl, nle rfl⟩ dX12_year_2 ?_
          rintro _ mz ⟨rfl, hz⟩
          subst mz
          rw [hu]
          refine go_c1 ?_
          refine gz_eq (by omega) (tgt := 25) dX12_year_5 (by decide) (fun h5 => by exfalso; omega) (fun h5 => ?_)
          refine go_iload_n (q := 2) (i := 2) rfl rfl dX12_year_8 ?_
          refine go_callS okmX12_isLong lmX12_441 ⟨nle rfl, nle rfl⟩ (ex_isLong) npmX12_isLong rfl (nle rfl) ⟨nle rfl, nle rfl⟩ dX12_year_9 ?_
          rintro _ mz ⟨rfl, hz⟩
          subst mz
          rw [hn]
          refine go_c1 ?_
          refine gz_eq (by omega) (tgt := 25) dX12_year_12 (by decide) (fun h12 => by exfalso; omega) (fun h12 => ?_)
          refine go_iload_n (q := 3) (i := 3) rfl rfl dX12_year_15 ?_
          refine go_iconst (v := nI 1) (by decide) dX12_year_16 ?_
          refine go_bipush (v := nI 20) (by decide) dX12_year_17 ?_
          refine go_callS okmX12_in lmX12_361 ⟨nle rfl, nle rfl⟩ (ex_in) npmX12_in rfl (nle rfl) ⟨nle rfl, nle rfl⟩ dX12_year_19 ?_
          rintro _ mz ⟨rfl, hz⟩
          subst mz
          rw [in1_j hz1 hz20 (by decide)]
          refine go_c1 ?_
          refine gz_ne (by omega) (tgt := 27) dX12_year_22 (by decide) (fun h22 => ?_) (fun h22 => by exfalso; omega)
          refine go_iconst (v := nI 0) (by decide) dX12_year_27 ?_
          refine go_istore (i := 4) dX12_year_28 (nle rfl) (nle rfl) ?_
          refine go_iconst (v := nI 0) (by decide) dX12_year_30 ?_
          refine go_istore (i := 5) dX12_year_31 (nle rfl) (nle rfl) ?_
          exact key 0 (Nat.zero_le _) m Mo.rf (fun _ _ => rfl)
