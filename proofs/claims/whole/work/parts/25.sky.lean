theorem Wf7.rV {n : Nat} {R : Nat → Nat → Option Nat} {a : Nat} (h : Wf7 n R a) : R (a + 9) 2 = some (a + 12) := h.w16.r2
theorem Wf7.iV {n : Nat} {R : Nat → Nat → Option Nat} {a : Nat} (h : Wf7 n R a) : Is n (a + 12) (1, 9) := h.w16.i2
theorem Wf7.lo {n : Nat} {R : Nat → Nat → Option Nat} {a : Nat} (h : Wf7 n R a) : Wf5 n R (a + 9) := h.w16
/-- what WIND tells at an hour -/
def wS (P : Pl) (h : Int32) : Int32 := if P.lw 0 (cvS h) - P.lw 0 (cvS h) / nI 5 * nI 5 < nI 0 then nI 0 else P.lw 0 (cvS h) - P.lw 0 (cvS h) / nI 5 * nI 5
/-- the variables of an hour -/
def eW (h b : Int32) : Nat → Int32 := fun k => if k = 8 then b else cvS h k
/-- and of a cell in it -/
def e5 (e : Nat → Int32) (f x y w : Int32) : Nat → Int32 := fun i => if i = 0 then f else if i = 3 then x else if i = 4 then y else if i = 5 then w else e i
/-- the variables that are an hour's own -/
def hv (V e : Nat → Int32) : Prop := ∀ i, i < 9 → i ≠ 0 → i ≠ 3 → i ≠ 4 → i ≠ 5 → V i = e i
set_option maxRecDepth 100000 in
set_option maxHeartbeats 4000000 in
theorem ev_beginHour {m : Me} {sk pl : Nat} {P : Pl} {h : Int32} (hk : Wf8 m.1 (gR m) sk) (hp : Wf7 m.1 (gR m) pl) (hL : LwC m pl P) (ok : PlOk P) : Ev mX8_beginHour [.ref sk, .ref pl, .int h] m (fun r m' => r = some (.int (wS P h)) ∧ Ch (fun x => x = pl + 12 ∨ x = pl + 13) m m' ∧ ∀ i, i < 9 → gI m' (pl + 12) i = eW h (wS P h) i) := by
  refine ⟨plmX8_beginHour, nle rfl, ?_⟩
  refine go_aload_n (q := 1) (i := 1) rfl rfl dX8_beginHour_0 ?_
  refine go_getR lf8_40 rfl hp.o hp.r16 dX8_beginHour_1 ?_
  refine go_astore_n (q := 3) (i := 3) rfl dX8_beginHour_4 (nle rfl) (nle rfl) ?_
  refine go_aload_n (q := 3) (i := 3) rfl rfl dX8_beginHour_5 ?_
  refine go_iload_n (q := 2) (i := 2) rfl rfl dX8_beginHour_6 ?_
  refine go_callV okmX5_clearVars lmX8_46 ⟨nle rfl, nle rfl⟩ hp.w16.o ⟨by decide, rfl⟩ (ev_clearVars hp.lo) npmX5_clearVars rfl (nle rfl) ⟨nle rfl, nle rfl⟩ dX8_beginHour_7 ?_
  rintro _ m1 ⟨rfl, h1⟩
  have e1 : gI m1 (pl + 12) = cp 9 (cvS h) (gI m (pl + 12)) := by rw [h1]; exact gI_s
  have hc : Ch (fun x => x = pl + 12 ∨ x = pl + 13) m m1 := by rw [h1]; exact Ch.I (Or.inl rfl)
  have hL : LwC m1 pl P := hL.keep (hc.at (by omega)) (hc.at (by omega))
  have hp := Ch.to (F := fun n R => Wf7 n R pl) hc hp
  refine go_c0 ?_
  refine go_aload_n (q := 3) (i := 3) rfl rfl dX8_beginHour_10 ?_
  refine go_iconst (v := nI 0) (by decide) dX8_beginHour_11 ?_
  refine go_callV okmX5_answer lmX8_52 ⟨nle rfl, nle rfl⟩ hp.w16.o ⟨by decide, rfl⟩ (ev_law hp (by decide) hL) npmX5_answer rfl (nle rfl) ⟨nle rfl, nle rfl⟩ dX8_beginHour_12 ?_
  rintro _ m2 ⟨rfl, z, h2⟩
  have e2 : gI m2 (pl + 12) = gI m1 (pl + 12) := by rw [h2]; exact gI_n (by omega)
  have hc2 : Ch (fun x => x = pl + 12 ∨ x = pl + 13) m m2 := hc.tr (by rw [h2]; exact Ch.I (Or.inr rfl))
  have ew : P.lw 0 (gI m1 (pl + 12)) = P.lw 0 (cvS h) := by
    refine ok.2.2.2.2.2.2.2.2.2.2.2.2 0 _ _ (by decide) (fun i hi => ?_)
    rw [e1, cp_in hi]
  rw [ew]
  have hp := Ch.to (F := fun n R => Wf7 n R pl) (show Ch (fun x => x = pl + 13) m1 m2 by rw [h2]; exact Ch.I rfl) hp
  refine go_c1 ?_
  refine go_iconst (v := nI 5) (by decide) dX8_beginHour_15 ?_
  refine go_irem (by decide) dX8_beginHour_16 ?_
  refine go_iconst (v := nI 0) (by decide) dX8_beginHour_17 ?_
  refine go_max okMax (wg4 63 rfl rfl) ⟨nle rfl, nle rfl⟩ ⟨Nat.zero_le _, Nat.zero_le _⟩ dX8_beginHour_18 ?_
  refine go_istore (i := 4) dX8_beginHour_21 (nle rfl) (nle rfl) ?_
  refine go_aload_n (q := 3) (i := 3) rfl rfl dX8_beginHour_23 ?_
  refine go_getR lf8_62 rfl hp.w16.o hp.rV dX8_beginHour_24 ?_
  refine go_bipush (v := nI 8) (by decide) dX8_beginHour_27 ?_
  refine go_iload (i := 4) rfl dX8_beginHour_29 ?_
  refine go_iast (j := 8) hp.iV (by omega) (by first | decide | omega) rfl dX8_beginHour_31 ?_
  refine go_iload (i := 4) rfl dX8_beginHour_32 ?_
  refine go_iret rfl ⟨Nat.zero_le _, Nat.zero_le _⟩ dX8_beginHour_34 ?_
  refine ⟨rfl, hc2.tr (Ch.I (Or.inl rfl)), fun i hi => ?_⟩
  rw [gI_s]
  unfold upd eW
  by_cases e : i = 8
  · rw [if_pos e, if_pos e]; rfl
  · rw [if_neg e, if_neg e, e2, e1, cp_in hi]
set_option maxRecDepth 100000 in
set_option maxHeartbeats 4000000 in
theorem ev_ofCell {m : Me} {sk pl g c k : Nat} {P : Pl} {e : Nat → Int32} (hk : Wf8 m.1 (gR m) sk) (hp : Wf7 m.1 (gR m) pl) (hg : Wf1 m.1 (gR m) g) (hL : LwC m pl P) (ok : PlOk P) (hne : g + 5 < pl ∨ pl + 14 < g) (hc : c < 40) (hkk : k < 4) (hV : hv (gI m (pl + 12)) e) : Ev mX8_ofCell [.ref sk, .ref pl, .ref g, .int (nI c), .int (nI k)] m (fun r m' => r = some (.int (wiS (P.lw k (e5 e (gI m (g + 1) c) (nI (c % 8)) (nI (c / 8)) (gI m (g + 2) c))) (gI m (g + 1) c))) ∧ Ch (fun x => x = pl + 12 ∨ x = pl + 13) m m' ∧ hv (gI m' (pl + 12)) e) := by
  refine ⟨plmX8_ofCell, nle rfl, ?_⟩
  refine go_iload_n (q := 3) (i := 3) rfl rfl dX8_ofCell_0 ?_
  refine gz_lt (by omega) (tgt := 10) dX8_ofCell_1 (by decide) (fun h1 => by exfalso; omega) (fun h1 => ?_)
  refine go_iload_n (q := 3) (i := 3) rfl rfl dX8_ofCell_4 ?_
  refine go_bipush (v := nI 40) (by decide) dX8_ofCell_5 ?_
  refine gn_lt (by omega) (by omega) (tgt := 12) dX8_ofCell_7 (by decide) (fun h7 => ?_) (fun h7 => by exfalso; omega)
  refine go_aload_n (q := 1) (i := 1) rfl rfl dX8_ofCell_12 ?_
  refine go_getR lf8_40 rfl hp.o hp.r16 dX8_ofCell_13 ?_
  refine go_astore (i := 5) dX8_ofCell_16 (nle rfl) (nle rfl) ?_
  refine go_aload (i := 5) rfl dX8_ofCell_18 ?_
  refine go_getR lf8_62 rfl hp.w16.o hp.rV dX8_ofCell_20 ?_
  refine go_iconst (v := nI 0) (by decide) dX8_ofCell_23 ?_
  refine go_aload_n (q := 2) (i := 2) rfl rfl dX8_ofCell_24 ?_
  refine go_getR lf8_76 rfl hg.o hg.r1 dX8_ofCell_25 ?_
  refine go_iload_n (q := 3) (i := 3) rfl rfl dX8_ofCell_28 ?_
  refine go_iald (j := c) hg.i1 (by omega) (by first | decide | omega) rfl dX8_ofCell_29 ?_
  refine go_iast (j := 0) hp.iV (by omega) (by first | decide | omega) rfl dX8_ofCell_30 ?_
  refine go_aload (i := 5) rfl dX8_ofCell_31 ?_
  refine go_getR lf8_62 rfl hp.w16.o hp.rV dX8_ofCell_33 ?_
  refine go_iconst (v := nI 3) (by decide) dX8_ofCell_36 ?_
  refine go_iload_n (q := 3) (i := 3) rfl rfl dX8_ofCell_37 ?_
  refine go_bipush (v := nI 8) (by decide) dX8_ofCell_38 ?_
  refine gn_rem (by omega) (by omega) (by omega) dX8_ofCell_40 ?_
  refine go_iast (j := 3) hp.iV (by omega) (by first | decide | omega) rfl dX8_ofCell_41 ?_
  rw [sI_sI, gI_s]
  refine go_aload (i := 5) rfl dX8_ofCell_42 ?_
  refine go_getR lf8_62 rfl hp.w16.o hp.rV dX8_ofCell_44 ?_
  refine go_iconst (v := nI 4) (by decide) dX8_ofCell_47 ?_
  refine go_iload_n (q := 3) (i := 3) rfl rfl dX8_ofCell_48 ?_
  refine go_bipush (v := nI 8) (by decide) dX8_ofCell_49 ?_
  refine gn_div (by omega) (by omega) (by omega) dX8_ofCell_51 ?_
  refine go_iast (j := 4) hp.iV (by omega) (by first | decide | omega) rfl dX8_ofCell_52 ?_
  rw [sI_sI, gI_s]
  refine go_aload (i := 5) rfl dX8_ofCell_53 ?_
  refine go_getR lf8_62 rfl hp.w16.o hp.rV dX8_ofCell_55 ?_
  refine go_iconst (v := nI 5) (by decide) dX8_ofCell_58 ?_
  refine go_aload_n (q := 2) (i := 2) rfl rfl dX8_ofCell_59 ?_
  refine go_getR lf8_102 rfl hg.o hg.r2 dX8_ofCell_60 ?_
  refine go_iload_n (q := 3) (i := 3) rfl rfl dX8_ofCell_63 ?_
  refine go_iald (j := c) hg.i2 (by omega) (by first | decide | omega) rfl dX8_ofCell_64 ?_
  rw [gI_n (show g + 2 ≠ pl + 12 by omega)]
  refine go_iast (j := 5) hp.iV (by omega) (by first | decide | omega) rfl dX8_ofCell_65 ?_
  rw [sI_sI, gI_s]
  generalize hmA : sI m (pl + 12) _ = mA
  have hcA : Ch (fun x => x = pl + 12 ∨ x = pl + 13) m mA := by rw [← hmA]; exact Ch.I (Or.inl rfl)
  have hLA : LwC mA pl P := hL.keep (hcA.at (by omega)) (hcA.at (by omega))
  have eF0 : gI mA (g + 1) c = gI m (g + 1) c := by rw [hcA.at (by omega)]
  have eV : ∀ i, i < 9 → gI mA (pl + 12) i = e5 e (gI m (g + 1) c) (nI (c % 8)) (nI (c / 8)) (gI m (g + 2) c) i := by
    intro i hi
    rw [← hmA, gI_s]
    unfold upd e5
    by_cases q5 : i = 5
    · subst q5; simp
    by_cases q4 : i = 4
    · subst q4; simp
    by_cases q3 : i = 3
    · subst q3; simp
    by_cases q0 : i = 0
    · subst q0; simp
    simp only [q5, q4, q3, q0, if_false]
    exact hV i hi q0 q3 q4 q5
  have hp := Ch.to (F := fun n R => Wf7 n R pl) hcA hp
  have hg := Ch.to (F := fun n R => Wf1 n R g) hcA hg
  refine go_aload (i := 5) rfl dX8_ofCell_66 ?_
  refine go_iload (i := 4) rfl dX8_ofCell_68 ?_
  refine go_callV okmX5_answer lmX8_52 ⟨nle rfl, nle rfl⟩ hp.w16.o ⟨by decide, rfl⟩ (ev_law hp hkk hLA) npmX5_answer rfl (nle rfl) ⟨nle rfl, nle rfl⟩ dX8_ofCell_70 ?_
  rintro _ m2 ⟨rfl, z, h2⟩
  have eF : gI m2 (g + 1) c = gI m (g + 1) c := by rw [h2, gI_n (by omega), eF0]
  have hc2 : Ch (fun x => x = pl + 12 ∨ x = pl + 13) mA m2 := by rw [h2]; exact Ch.I (Or.inr rfl)
  rw [ok.2.2.2.2.2.2.2.2.2.2.2.2 k _ (e5 e (gI m (g + 1) c) (nI (c % 8)) (nI (c / 8)) (gI m (g + 2) c)) hkk eV]
  have hg := Ch.to (F := fun n R => Wf1 n R g) hc2 hg
  refine go_c1 ?_
  refine go_aload_n (q := 2) (i := 2) rfl rfl dX8_ofCell_73 ?_
  refine go_getR lf8_76 rfl hg.o hg.r1 dX8_ofCell_74 ?_
  refine go_iload_n (q := 3) (i := 3) rfl rfl dX8_ofCell_77 ?_
  refine go_iald (j := c) hg.i1 (by omega) (by first | decide | omega) rfl dX8_ofCell_78 ?_
  rw [eF]
  refine go_callS okmX11_within lmX8_99 ⟨nle rfl, nle rfl⟩ (ev_within) npmX11_within rfl (nle rfl) ⟨nle rfl, nle rfl⟩ dX8_ofCell_79 ?_
  rintro _ m3 ⟨rfl, h3⟩
  subst h3
  refine go_c1 ?_
  refine go_iret rfl ⟨Nat.zero_le _, Nat.zero_le _⟩ dX8_ofCell_82 ?_
  refine ⟨rfl, hcA.tr hc2, fun i hi q0 q3 q4 q5 => ?_⟩
  rw [h2, gI_n (by omega), eV i hi]
  unfold e5
  rw [if_neg q0, if_neg q3, if_neg q4, if_neg q5]
def mxS (a b : Int32) : Int32 := (a ^^^ b) * 1103515245 + nI 12345 ^^^ (((a ^^^ b) * 1103515245 + nI 12345).toUInt32 >>> ((nI 15).toUInt32 &&& Int32.toUInt32 31)).toInt32
def guS (gu se h : Int32) : Int32 := if gu ≤ (((mxS (mxS se (nI 105)) (nI 4 * h)).toUInt32 >>> ((nI 1).toUInt32 &&& Int32.toUInt32 31)).toInt32 - ((mxS (mxS se (nI 105)) (nI 4 * h)).toUInt32 >>> ((nI 1).toUInt32 &&& Int32.toUInt32 31)).toInt32 / nI 100 * nI 100) then nI 0 else nI 1
set_option maxRecDepth 100000 in
set_option maxHeartbeats 4000000 in
theorem ev_mixed {m : Me} {a b : Int32} : Ev mX8_mixed [.int a, .int b] m (fun r m' => r = some (.int (mxS a b)) ∧ m' = m) := by
  refine ⟨plmX8_mixed, nle rfl, ?_⟩
  refine go_iload_n (q := 0) (i := 0) rfl rfl dX8_mixed_0 ?_
  refine go_iload_n (q := 1) (i := 1) rfl rfl dX8_mixed_1 ?_
  refine go_ixor dX8_mixed_2 ?_
  refine go_ldc (wg4 179 rfl rfl) dX8_mixed_3 ?_
  refine go_imul dX8_mixed_5 ?_
  refine go_sipush (v := nI 12345) (by decide) dX8_mixed_6 ?_
  refine go_iadd dX8_mixed_9 ?_
  refine go_istore_n (q := 2) (i := 2) rfl dX8_mixed_10 (nle rfl) (nle rfl) ?_
  refine go_iload_n (q := 2) (i := 2) rfl rfl dX8_mixed_11 ?_
  refine go_iload_n (q := 2) (i := 2) rfl rfl dX8_mixed_12 ?_
  refine go_bipush (v := nI 15) (by decide) dX8_mixed_13 ?_
  refine go_iushr dX8_mixed_15 ?_
  refine go_ixor dX8_mixed_16 ?_
  refine go_iret rfl ⟨Nat.zero_le _, Nat.zero_le _⟩ dX8_mixed_17 ?_
  exact ⟨rfl, rfl⟩
set_option maxRecDepth 100000 in
set_option maxHeartbeats 4000000 in
theorem ev_isGust {m : Me} {sk pl : Nat} {a h : Int32} (hk : Wf8 m.1 (gR m) sk) (hp : Wf7 m.1 (gR m) pl) : Ev mX8_isGust [.ref sk, .ref pl, .int a, .int h] m (fun r m' => r = some (.int (guS (gI m pl 5) a h)) ∧ m' = m) := by
  refine ⟨plmX8_isGust, nle rfl, ?_⟩
  refine go_iload_n (q := 2) (i := 2) rfl rfl dX8_isGust_0 ?_
  refine go_bipush (v := nI 105) (by decide) dX8_isGust_1 ?_
  refine go_callS okmX8_mixed lmX8_65 ⟨nle rfl, nle rfl⟩ (ev_mixed) npmX8_mixed rfl (nle rfl) ⟨nle rfl, nle rfl⟩ dX8_isGust_3 ?_
  rintro _ m1 ⟨rfl, h1⟩
  subst h1
  refine go_c1 ?_
  refine go_iconst (v := nI 4) (by decide) dX8_isGust_6 ?_
  refine go_iload_n (q := 3) (i := 3) rfl rfl dX8_isGust_7 ?_
  refine go_imul dX8_isGust_8 ?_
  refine go_callS okmX8_mixed lmX8_65 ⟨nle rfl, nle rfl⟩ (ev_mixed) npmX8_mixed rfl (nle rfl) ⟨nle rfl, nle rfl⟩ dX8_isGust_9 ?_
  rintro _ m1 ⟨rfl, h1⟩
  subst h1
  refine go_c1 ?_
  refine go_istore (i := 4) dX8_isGust_12 (nle rfl) (nle rfl) ?_
  refine go_iload (i := 4) rfl dX8_isGust_14 ?_
  refine go_iconst (v := nI 1) (by decide) dX8_isGust_16 ?_
  refine go_iushr dX8_isGust_17 ?_
  refine go_bipush (v := nI 100) (by decide) dX8_isGust_18 ?_
  refine go_irem (by decide) dX8_isGust_20 ?_
  refine go_aload_n (q := 1) (i := 1) rfl rfl dX8_isGust_21 ?_
  refine go_getI lf8_68 rfl hp.o dX8_isGust_22 ?_
  refine go_icmp_ge (tgt := 32) dX8_isGust_25 (by decide) (fun h25 => ?_) (fun h25 => ?_)
  · skip
    refine go_iconst (v := nI 0) (by decide) dX8_isGust_32 ?_
    refine go_zret rfl (by decide) ⟨Nat.zero_le _, Nat.zero_le _⟩ dX8_isGust_33 ?_
    refine ⟨?_, rfl⟩
    unfold guS
    first | rw [if_pos (by assumption)] | rw [if_neg (by assumption)]
  · skip
    refine go_iconst (v := nI 1) (by decide) dX8_isGust_28 ?_
    refine go_goto (tgt := 33) dX8_isGust_29 (by decide) ?_
    refine go_zret rfl (by decide) ⟨Nat.zero_le _, Nat.zero_le _⟩ dX8_isGust_33 ?_
    refine ⟨?_, rfl⟩
    unfold guS
    first | rw [if_pos (by assumption)] | rw [if_neg (by assumption)]
