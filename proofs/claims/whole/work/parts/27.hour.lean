/-- what stays on a cell: thinned, leaked, no more than 99 -/
def thS2 (P : Pl) (e F W : Nat → Int32) (leak lk : Int32) (c : Nat) : Int32 := if F c ≤ 0 then F c else wiS (if nI c = lk then F c - tS P e F W 2 c - leak else F c - tS P e F W 2 c) (nI 99)
set_option maxRecDepth 100000 in
set_option maxHeartbeats 4000000 in
theorem ev_thinAll {m : Me} {pl g : Nat} {P : Pl} {e : Nat → Int32} {lk : Int32} (hk : Wf8 m.1 (gR m) 13) (hp : Wf7 m.1 (gR m) pl) (hg : Wf1 m.1 (gR m) g) (hL : LwC m pl P) (ok : PlOk P) (hne : g + 5 < pl ∨ pl + 14 < g) (hs1 : 14 < g) (hs2 : 14 < pl) (hV : hv (gI m (pl + 12)) e) : Ev mX8_thinAll [.ref 13, .ref pl, .ref g, .int lk] m (fun r m' => r = none ∧ Ch (fun x => x = pl + 12 ∨ x = pl + 13 ∨ x = g + 1) m m' ∧ (∀ k, k < 40 → gI m' (g + 1) k = thS2 P e (gI m (g + 1)) (gI m (g + 2)) (gI m pl 6) lk k) ∧ hv (gI m' (pl + 12)) e) := by
  refine ⟨plmX8_thinAll, nle rfl, ?_⟩
  have key : ∀ i, i ≤ 40 → ∀ (mi : Me) (x5 : Option Value), Ch (fun x => x = pl + 12 ∨ x = pl + 13 ∨ x = g + 1) m mi → (∀ k, k < 40 → gI mi (g + 1) k = if k < i then thS2 P e (gI m (g + 1)) (gI m (g + 2)) (gI m pl 6) lk k else gI m (g + 1) k) → hv (gI mi (pl + 12)) e → Go mX8_thinAll (fun r m' => r = none ∧ Ch (fun x => x = pl + 12 ∨ x = pl + 13 ∨ x = g + 1) m m' ∧ (∀ k, k < 40 → gI m' (g + 1) k = thS2 P e (gI m (g + 1)) (gI m (g + 2)) (gI m pl 6) lk k) ∧ hv (gI m' (pl + 12)) e) 3 [some (.ref 13), some (.ref pl), some (.ref g), some (.int lk), some (.int (nI i)), x5] [] (mi) 0 0 := by
    refine loop_up 40 ?_ ?_
    · intro mi x5 hc hM hVi
      have hk := Ch.to (F := fun n R => Wf8 n R 13) hc hk
      have hp := Ch.to (F := fun n R => Wf7 n R pl) hc hp
      have hg := Ch.to (F := fun n R => Wf1 n R g) hc hg
      have eW : gI mi (g + 2) = gI m (g + 2) := hc.at (by omega)
      have eP : gI mi pl = gI m pl := hc.at (by omega)
      have hLi : LwC mi pl P := hL.keep (hc.at (by omega)) (hc.at (by omega))
      refine go_iload (i := 4) rfl dX8_thinAll_3 ?_
      refine go_bipush (v := nI 40) (by decide) dX8_thinAll_5 ?_
      refine gn_ge (by omega) (by omega) (tgt := 75) dX8_thinAll_7 (by decide) (fun h7 => ?_) (fun h7 => by exfalso; omega)
      refine go_vret rfl ⟨Nat.zero_le _, Nat.zero_le _⟩ dX8_thinAll_75 ?_
      refine ⟨rfl, hc, fun k hk2 => ?_, hVi⟩
      rw [hM k hk2, if_pos hk2]
    · intro i hi ih mi x5 hc hM hVi
      have hk := Ch.to (F := fun n R => Wf8 n R 13) hc hk
      have hp := Ch.to (F := fun n R => Wf7 n R pl) hc hp
      have hg := Ch.to (F := fun n R => Wf1 n R g) hc hg
      have eW : gI mi (g + 2) = gI m (g + 2) := hc.at (by omega)
      have eP : gI mi pl = gI m pl := hc.at (by omega)
      have hLi : LwC mi pl P := hL.keep (hc.at (by omega)) (hc.at (by omega))
      have eF : gI mi (g + 1) i = gI m (g + 1) i := by rw [hM i hi, if_neg (Nat.lt_irrefl i)]
      refine go_iload (i := 4) rfl dX8_thinAll_3 ?_
      refine go_bipush (v := nI 40) (by decide) dX8_thinAll_5 ?_
      refine gn_ge (by omega) (by omega) (tgt := 75) dX8_thinAll_7 (by decide) (fun h7 => by exfalso; omega) (fun h7 => ?_)
      refine go_aload_n (q := 2) (i := 2) rfl rfl dX8_thinAll_10 ?_
      refine go_getR lf8_76 rfl hg.o hg.r1 dX8_thinAll_11 ?_
      refine go_iload (i := 4) rfl dX8_thinAll_14 ?_
      refine go_iald (j := i) hg.i1 (by omega) (by first | decide | omega) rfl dX8_thinAll_16 ?_
      rw [eF]
      refine go_if_le (tgt := 69) dX8_thinAll_17 (by decide) (fun h17 => ?_) (fun h17 => ?_)
      · skip
        refine gn_inc (i := 4) (a := i) (q := 1) rfl dX8_thinAll_69 (nle rfl) rfl ?_
        refine go_goto (tgt := 3) dX8_thinAll_72 (by decide) ?_
        refine ih mi _ hc (fun k hk2 => ?_) hVi
        rw [hM k hk2]
        by_cases q : k < i
        · rw [if_pos q, if_pos (by omega)]
        · rw [if_neg q]
          by_cases q2 : k = i
          · subst q2; rw [if_pos (by omega)]; exact (if_pos h17).symm
          · rw [if_neg (by omega)]
      · skip
        refine go_aload_n (q := 2) (i := 2) rfl rfl dX8_thinAll_20 ?_
        refine go_getR lf8_76 rfl hg.o hg.r1 dX8_thinAll_21 ?_
        refine go_iload (i := 4) rfl dX8_thinAll_24 ?_
        refine go_iald (j := i) hg.i1 (by omega) (by first | decide | omega) rfl dX8_thinAll_26 ?_
        rw [eF]
        refine go_aload_n (q := 0) (i := 0) rfl rfl dX8_thinAll_27 ?_
        refine go_aload_n (q := 1) (i := 1) rfl rfl dX8_thinAll_28 ?_
        refine go_aload_n (q := 2) (i := 2) rfl rfl dX8_thinAll_29 ?_
        refine go_iload (i := 4) rfl dX8_thinAll_30 ?_
        refine go_iconst (v := nI 2) (by decide) dX8_thinAll_32 ?_
        refine go_callV okmX8_ofCell lmX8_79 ⟨nle rfl, nle rfl⟩ hk.o ⟨by decide, rfl⟩ (ev_ofCell hk hp hg hLi ok hne hi (by decide) hVi) npmX8_ofCell rfl (nle rfl) ⟨nle rfl, nle rfl⟩ dX8_thinAll_33 ?_
        rintro _ m1 ⟨rfl, hc1, hV1⟩
        rw [show wiS (P.lw 2 (e5 e (gI mi (g + 1) i) (nI (i % 8)) (nI (i / 8)) (gI mi (g + 2) i))) (gI mi (g + 1) i) = (tS P e (gI m (g + 1)) (gI m (g + 2)) 2) i by rw [eF, eW]; rfl]
        have hk := Ch.to (F := fun n R => Wf8 n R 13) hc1 hk
        have hp := Ch.to (F := fun n R => Wf7 n R pl) hc1 hp
        have hg := Ch.to (F := fun n R => Wf1 n R g) hc1 hg
        have eM1 : gI m1 (g + 1) = gI mi (g + 1) := hc1.at (by omega)
        have eP1 : gI m1 pl = gI m pl := (hc1.at (by omega)).trans eP
        refine go_c1 ?_
        refine go_isub dX8_thinAll_36 ?_
        refine go_istore (i := 5) dX8_thinAll_37 (nle rfl) (nle rfl) ?_
        refine go_aload_n (q := 2) (i := 2) rfl rfl dX8_thinAll_39 ?_
        refine go_getR lf8_76 rfl hg.o hg.r1 dX8_thinAll_40 ?_
        refine go_iload (i := 4) rfl dX8_thinAll_43 ?_
        refine go_iload (i := 4) rfl dX8_thinAll_45 ?_
        refine go_iload_n (q := 3) (i := 3) rfl rfl dX8_thinAll_47 ?_
        refine go_icmp_ne (tgt := 61) dX8_thinAll_48 (by decide) (fun h48 => ?_) (fun h48 => ?_)
        · skip
          refine go_iload (i := 5) rfl dX8_thinAll_61 ?_
          refine go_bipush (v := nI 99) (by decide) dX8_thinAll_63 ?_
          refine go_callS okmX11_within lmX8_99 ⟨nle rfl, nle rfl⟩ (ev_within) npmX11_within rfl (nle rfl) ⟨nle rfl, nle rfl⟩ dX8_thinAll_65 ?_
          rintro _ mz ⟨rfl, hz⟩
          subst mz
          refine go_c1 ?_
          refine go_iast (j := i) hg.i1 (by omega) (by first | decide | omega) rfl dX8_thinAll_68 ?_
          refine gn_inc (i := 4) (a := i) (q := 1) rfl dX8_thinAll_69 (nle rfl) rfl ?_
          refine go_goto (tgt := 3) dX8_thinAll_72 (by decide) ?_
          refine ih _ _ ((hc.tr (hc1.mn (fun x hx => by omega))).tr (Ch.I (Or.inr (Or.inr rfl)))) (fun k hk2 => ?_) ?_
          · rw [gI_s]
            unfold upd
            by_cases q2 : k = i
            · subst q2
              rw [if_pos rfl, if_pos (by omega)]
              exact ((if_neg h17).trans (by rw [if_neg h48])).symm
            · rw [if_neg q2, eM1, hM k hk2]
              by_cases q : k < i
              · rw [if_pos q, if_pos (by omega)]
              · rw [if_neg q, if_neg (by omega)]
          · rw [gI_n (by omega)]; exact hV1
        · skip
          refine go_iload (i := 5) rfl dX8_thinAll_51 ?_
          refine go_aload_n (q := 1) (i := 1) rfl rfl dX8_thinAll_53 ?_
          refine go_getI lf8_96 rfl hp.o dX8_thinAll_54 ?_
          rw [eP1]
          refine go_isub dX8_thinAll_57 ?_
          refine go_goto (tgt := 63) dX8_thinAll_58 (by decide) ?_
          refine go_bipush (v := nI 99) (by decide) dX8_thinAll_63 ?_
          refine go_callS okmX11_within lmX8_99 ⟨nle rfl, nle rfl⟩ (ev_within) npmX11_within rfl (nle rfl) ⟨nle rfl, nle rfl⟩ dX8_thinAll_65 ?_
          rintro _ mz ⟨rfl, hz⟩
          subst mz
          refine go_c1 ?_
          refine go_iast (j := i) hg.i1 (by omega) (by first | decide | omega) rfl dX8_thinAll_68 ?_
          refine gn_inc (i := 4) (a := i) (q := 1) rfl dX8_thinAll_69 (nle rfl) rfl ?_
          refine go_goto (tgt := 3) dX8_thinAll_72 (by decide) ?_
          refine ih _ _ ((hc.tr (hc1.mn (fun x hx => by omega))).tr (Ch.I (Or.inr (Or.inr rfl)))) (fun k hk2 => ?_) ?_
          · rw [gI_s]
            unfold upd
            by_cases q2 : k = i
            · subst q2
              rw [if_pos rfl, if_pos (by omega)]
              exact ((if_neg h17).trans (by rw [if_pos h48])).symm
            · rw [if_neg q2, eM1, hM k hk2]
              by_cases q : k < i
              · rw [if_pos q, if_pos (by omega)]
              · rw [if_neg q, if_neg (by omega)]
          · rw [gI_n (by omega)]; exact hV1
  have k0 := key 0 (Nat.zero_le _) m none Ch.rf (fun k hk2 => by rw [if_neg (Nat.not_lt_zero k)]) hV
  refine go_iconst (v := nI 0) (by decide) dX8_thinAll_0 ?_
  refine go_istore (i := 4) dX8_thinAll_1 (nle rfl) (nle rfl) ?_
  exact k0
/-- the variables of GIVES -/
def eG (h f s r : Int32) (i : Nat) : Nat → Int32 := fun k => if k = 0 then f else if k = 5 then nI i else if k = 6 then s else if k = 7 then r else cvS h k
/-- a holding's store, given -/
def giS (P : Pl) (h : Int32) (F W S R : Nat → Int32) (i : Nat) : Int32 := if nI 999 < S i + wiS (P.lw 3 (eG h (fgS F W (nI i) 40) (S i) (R i) i)) (nI 99) then nI 999 else S i + wiS (P.lw 3 (eG h (fgS F W (nI i) 40) (S i) (R i) i)) (nI 99)
set_option maxRecDepth 100000 in
set_option maxHeartbeats 4000000 in
theorem ev_giveAll {m : Me} {pl g : Nat} {P : Pl} (hk : Wf8 m.1 (gR m) 13) (hp : Wf7 m.1 (gR m) pl) (hg : Wf1 m.1 (gR m) g) (hL : LwC m pl P) (ok : PlOk P) (hne : g + 5 < pl ∨ pl + 14 < g) (hs1 : 14 < g) (hs2 : 14 < pl) (hh : gI m pl 2 = nI P.hd) : Ev mX8_giveAll [.ref 13, .ref pl, .ref g] m (fun r m' => r = none ∧ Ch (fun x => x = pl + 12 ∨ x = pl + 13 ∨ x = g + 3) m m' ∧ (∀ k, k < 4 → gI m' (g + 3) k = if k < P.hd then giS P (gI m g 0) (gI m (g + 1)) (gI m (g + 2)) (gI m (g + 3)) (gI m (pl + 3)) k else gI m (g + 3) k)) := by
  refine ⟨plmX8_giveAll, nle rfl, ?_⟩
  have hd4 := ok.2.2.1
  have key : ∀ i, i ≤ P.hd → ∀ (mi : Me), Ch (fun x => x = pl + 12 ∨ x = pl + 13 ∨ x = g + 3) m mi → (∀ k, k < 4 → gI mi (g + 3) k = if k < i then giS P (gI m g 0) (gI m (g + 1)) (gI m (g + 2)) (gI m (g + 3)) (gI m (pl + 3)) k else gI m (g + 3) k) → (∀ k, k < 9 → k ≠ 0 → k ≠ 5 → k ≠ 6 → k ≠ 7 → gI mi (pl + 12) k = cvS (gI m g 0) k) → Go mX8_giveAll (fun r m' => r = none ∧ Ch (fun x => x = pl + 12 ∨ x = pl + 13 ∨ x = g + 3) m m' ∧ (∀ k, k < 4 → gI m' (g + 3) k = if k < P.hd then giS P (gI m g 0) (gI m (g + 1)) (gI m (g + 2)) (gI m (g + 3)) (gI m (pl + 3)) k else gI m (g + 3) k)) 16 [some (.ref 13), some (.ref pl), some (.ref g), some (.ref (pl + 9)), some (.int (nI i))] [] (mi) 0 0 := by
    refine loop_up P.hd ?_ ?_
    · intro mi hc hM hVi
      have hk := Ch.to (F := fun n R => Wf8 n R 13) hc hk
      have hp := Ch.to (F := fun n R => Wf7 n R pl) hc hp
      have hg := Ch.to (F := fun n R => Wf1 n R g) hc hg
      have eF : gI mi (g + 1) = gI m (g + 1) := hc.at (by omega)
      have eW : gI mi (g + 2) = gI m (g + 2) := hc.at (by omega)
      have eP : gI mi pl = gI m pl := hc.at (by omega)
      have eR : gI mi (pl + 3) = gI m (pl + 3) := hc.at (by omega)
      have hLi : LwC mi pl P := hL.keep (hc.at (by omega)) (hc.at (by omega))
      refine go_iload (i := 4) rfl dX8_giveAll_16 ?_
      refine go_aload_n (q := 1) (i := 1) rfl rfl dX8_giveAll_18 ?_
      refine go_getI lf8_105 rfl hp.o dX8_giveAll_19 ?_
      rw [eP, hh]
      refine gn_ge (by omega) (by omega) (tgt := 116) dX8_giveAll_22 (by decide) (fun h22 => ?_) (fun h22 => by exfalso; omega)
      refine go_vret rfl ⟨Nat.zero_le _, Nat.zero_le _⟩ dX8_giveAll_116 ?_
      exact ⟨rfl, hc, hM⟩
    · intro i hi ih mi hc hM hVi
      have hk := Ch.to (F := fun n R => Wf8 n R 13) hc hk
      have hp := Ch.to (F := fun n R => Wf7 n R pl) hc hp
      have hg := Ch.to (F := fun n R => Wf1 n R g) hc hg
      have eF : gI mi (g + 1) = gI m (g + 1) := hc.at (by omega)
      have eW : gI mi (g + 2) = gI m (g + 2) := hc.at (by omega)
      have eP : gI mi pl = gI m pl := hc.at (by omega)
      have eR : gI mi (pl + 3) = gI m (pl + 3) := hc.at (by omega)
      have hLi : LwC mi pl P := hL.keep (hc.at (by omega)) (hc.at (by omega))
      have eS : gI mi (g + 3) i = gI m (g + 3) i := by rw [hM i (by omega), if_neg (Nat.lt_irrefl i)]
      refine go_iload (i := 4) rfl dX8_giveAll_16 ?_
      refine go_aload_n (q := 1) (i := 1) rfl rfl dX8_giveAll_18 ?_
      refine go_getI lf8_105 rfl hp.o dX8_giveAll_19 ?_
      rw [eP, hh]
      refine gn_ge (by omega) (by omega) (tgt := 116) dX8_giveAll_22 (by decide) (fun h22 => by exfalso; omega) (fun h22 => ?_)
      refine go_iload (i := 4) rfl dX8_giveAll_25 ?_
      refine go_iconst (v := nI 4) (by decide) dX8_giveAll_27 ?_
      refine gn_ge (by omega) (by omega) (tgt := 116) dX8_giveAll_28 (by decide) (fun h28 => by exfalso; omega) (fun h28 => ?_)
      refine go_aload_n (q := 3) (i := 3) rfl rfl dX8_giveAll_31 ?_
      refine go_getR lf8_62 rfl hp.lo.o hp.rV dX8_giveAll_32 ?_
      refine go_iconst (v := nI 5) (by decide) dX8_giveAll_35 ?_
      refine go_iload (i := 4) rfl dX8_giveAll_36 ?_
      refine go_iast (j := 5) hp.iV (by omega) (by first | decide | omega) rfl dX8_giveAll_38 ?_
      refine go_aload_n (q := 3) (i := 3) rfl rfl dX8_giveAll_39 ?_
      refine go_getR lf8_62 rfl hp.lo.o hp.rV dX8_giveAll_40 ?_
      refine go_bipush (v := nI 6) (by decide) dX8_giveAll_43 ?_
      refine go_aload_n (q := 2) (i := 2) rfl rfl dX8_giveAll_45 ?_
      refine go_getR lf8_108 rfl hg.o hg.r3 dX8_giveAll_46 ?_
      refine go_iload (i := 4) rfl dX8_giveAll_49 ?_
      refine go_iald (j := i) hg.i3 (by omega) (by first | decide | omega) rfl dX8_giveAll_51 ?_
      rw [gI_n (show g + 3 ≠ pl + 12 by omega), eS]
      refine go_iast (j := 6) hp.iV (by omega) (by first | decide | omega) rfl dX8_giveAll_52 ?_
      rw [sI_sI, gI_s]
      refine go_aload_n (q := 3) (i := 3) rfl rfl dX8_giveAll_53 ?_
      refine go_getR lf8_62 rfl hp.lo.o hp.rV dX8_giveAll_54 ?_
      refine go_bipush (v := nI 7) (by decide) dX8_giveAll_57 ?_
      refine go_aload_n (q := 1) (i := 1) rfl rfl dX8_giveAll_59 ?_
      refine go_getR lf8_111 rfl hp.o hp.r10 dX8_giveAll_60 ?_
      refine go_iload (i := 4) rfl dX8_giveAll_63 ?_
      refine go_iald (j := i) hp.i10 (by omega) (by first | decide | omega) rfl dX8_giveAll_65 ?_
      rw [gI_n (show pl + 3 ≠ pl + 12 by omega), eR]
      refine go_iast (j := 7) hp.iV (by omega) (by first | decide | omega) rfl dX8_giveAll_66 ?_
      rw [sI_sI, gI_s]
      refine go_aload_n (q := 3) (i := 3) rfl rfl dX8_giveAll_67 ?_
      refine go_getR lf8_62 rfl hp.lo.o hp.rV dX8_giveAll_68 ?_
      generalize hmB : sI mi (pl + 12) _ = mB
      have hcB : Ch (fun x => x = pl + 12 ∨ x = pl + 13) mi mB := by rw [← hmB]; exact Ch.I (Or.inl rfl)
      have eF2 : gI mB (g + 1) = gI m (g + 1) := by rw [hcB.at (by omega), eF]
      have eW2 : gI mB (g + 2) = gI m (g + 2) := by rw [hcB.at (by omega), eW]
      have hp0 := hp
      have hg0 := hg
      have hk := Ch.to (F := fun n R => Wf8 n R 13) hcB hk
      have hp := Ch.to (F := fun n R => Wf7 n R pl) hcB hp
      have hg := Ch.to (F := fun n R => Wf1 n R g) hcB hg
      refine go_iconst (v := nI 0) (by decide) dX8_giveAll_71 ?_
      refine go_aload_n (q := 2) (i := 2) rfl rfl dX8_giveAll_72 ?_
      refine go_iload (i := 4) rfl dX8_giveAll_73 ?_
      refine go_callV okmX1_fogOf lmX8_114 ⟨nle rfl, nle rfl⟩ hg.o ⟨by decide, rfl⟩ (ev_fogOf hg) npmX1_fogOf rfl (nle rfl) ⟨nle rfl, nle rfl⟩ dX8_giveAll_75 ?_
      rintro _ mz ⟨rfl, hz⟩
      subst mz
      rw [eF2, eW2]
      refine go_c1 ?_
      refine go_iast (j := 0) hp.iV (by omega) (by first | decide | omega) rfl dX8_giveAll_78 ?_
      generalize hmA : sI mB (pl + 12) _ = mA
      have hcA : Ch (fun x => x = pl + 12 ∨ x = pl + 13) mB mA := by rw [← hmA]; exact Ch.I (Or.inl rfl)
      have eSA : gI mA (g + 3) = gI mi (g + 3) := by rw [hcA.at (by omega), hcB.at (by omega)]
      have hLA : LwC mA pl P := (hLi.keep (hcB.at (by omega)) (hcB.at (by omega))).keep (hcA.at (by omega)) (hcA.at (by omega))
      have eV : ∀ k, k < 9 → gI mA (pl + 12) k = eG (gI m g 0) (fgS (gI m (g + 1)) (gI m (g + 2)) (nI i) 40) (gI m (g + 3) i) (gI m (pl + 3) i) i k := by
        intro k hk9
        rw [← hmA, gI_s, ← hmB, gI_s]
        unfold upd eG
        by_cases q0 : k = 0
        · subst q0; simp
        by_cases q7 : k = 7
        · subst q7; simp
        by_cases q6 : k = 6
        · subst q6; simp
        by_cases q5 : k = 5
        · subst q5; simp
        simp only [q0, q5, q6, q7, if_false]
        exact hVi k hk9 q0 q5 q6 q7
      have hk := Ch.to (F := fun n R => Wf8 n R 13) hcA hk
      have hp := Ch.to (F := fun n R => Wf7 n R pl) hcA hp
      have hg := Ch.to (F := fun n R => Wf1 n R g) hcA hg
      refine go_aload_n (q := 2) (i := 2) rfl rfl dX8_giveAll_79 ?_
      refine go_getR lf8_108 rfl hg.o hg.r3 dX8_giveAll_80 ?_
      refine go_iload (i := 4) rfl dX8_giveAll_83 ?_
      refine go_aload_n (q := 2) (i := 2) rfl rfl dX8_giveAll_85 ?_
      refine go_getR lf8_108 rfl hg.o hg.r3 dX8_giveAll_86 ?_
      refine go_iload (i := 4) rfl dX8_giveAll_89 ?_
      refine go_iald (j := i) hg.i3 (by omega) (by first | decide | omega) rfl dX8_giveAll_91 ?_
      rw [eSA, eS]
      refine go_aload_n (q := 3) (i := 3) rfl rfl dX8_giveAll_92 ?_
      refine go_iconst (v := nI 3) (by decide) dX8_giveAll_93 ?_
      refine go_callV okmX5_answer lmX8_52 ⟨nle rfl, nle rfl⟩ hp.lo.o ⟨by decide, rfl⟩ (ev_law hp (by decide) hLA) npmX5_answer rfl (nle rfl) ⟨nle rfl, nle rfl⟩ dX8_giveAll_94 ?_
      rintro _ m2 ⟨rfl, z, h2⟩
      rw [ok.2.2.2.2.2.2.2.2.2.2.2.2 3 _ (eG (gI m g 0) (fgS (gI m (g + 1)) (gI m (g + 2)) (nI i) 40) (gI m (g + 3) i) (gI m (pl + 3) i) i) (by decide) eV]
      have hc2 : Ch (fun x => x = pl + 12 ∨ x = pl + 13) mA m2 := by rw [h2]; exact Ch.I (Or.inr rfl)
      have hk := Ch.to (F := fun n R => Wf8 n R 13) hc2 hk
      have hp := Ch.to (F := fun n R => Wf7 n R pl) hc2 hp
      have hg := Ch.to (F := fun n R => Wf1 n R g) hc2 hg
      refine go_c1 ?_
      refine go_bipush (v := nI 99) (by decide) dX8_giveAll_97 ?_
      refine go_callS okmX11_within lmX8_99 ⟨nle rfl, nle rfl⟩ (ev_within) npmX11_within rfl (nle rfl) ⟨nle rfl, nle rfl⟩ dX8_giveAll_99 ?_
      rintro _ mz ⟨rfl, hz⟩
      subst mz
      refine go_c1 ?_
      refine go_iadd dX8_giveAll_102 ?_
      refine go_sipush (v := nI 999) (by decide) dX8_giveAll_103 ?_
      refine go_min okMin (wg4 189 rfl rfl) ⟨nle rfl, nle rfl⟩ ⟨Nat.zero_le _, Nat.zero_le _⟩ dX8_giveAll_106 ?_
      refine go_iast (j := i) hg.i3 (by omega) (by first | decide | omega) rfl dX8_giveAll_109 ?_
      refine gn_inc (i := 4) (a := i) (q := 1) rfl dX8_giveAll_110 (nle rfl) rfl ?_
      refine go_goto (tgt := 16) dX8_giveAll_113 (by decide) ?_
      refine ih _ ((((hc.tr (hcB.mn (fun x hx => by omega))).tr (hcA.mn (fun x hx => by omega))).tr (hc2.mn (fun x hx => by omega))).tr (Ch.I (Or.inr (Or.inr rfl)))) (fun k hk2 => ?_) (fun k hk9 q0 q5 q6 q7 => ?_)
      · rw [gI_s, hc2.at (show ¬ (g + 3 = pl + 12 ∨ g + 3 = pl + 13) by omega), eSA]
        unfold upd
        by_cases q2 : k = i
        · subst q2
          refine Eq.trans ?_ (if_pos (Nat.lt_succ_self k)).symm
          rw [if_pos rfl]
          rfl
        · rw [if_neg q2, hM k hk2]
          by_cases q : k < i
          · rw [if_pos q, if_pos (by omega)]
          · rw [if_neg q, if_neg (by omega)]
      · rw [gI_n (by omega), h2, gI_n (by omega), eV k hk9]
        unfold eG
        rw [if_neg q0, if_neg q5, if_neg q6, if_neg q7]
  have k0 := key 0 (Nat.zero_le _) (sI m (pl + 12) (cp 9 (cvS (gI m g 0)) (gI m (pl + 12)))) (Ch.I (Or.inl rfl)) (fun k hk2 => by rw [if_neg (Nat.not_lt_zero k), gI_n (by omega)]) (fun k hk9 q0 q5 q6 q7 => by rw [gI_s, cp_in hk9])
  refine go_aload_n (q := 1) (i := 1) rfl rfl dX8_giveAll_0 ?_
  refine go_getR lf8_40 rfl hp.o hp.r16 dX8_giveAll_1 ?_
  refine go_astore_n (q := 3) (i := 3) rfl dX8_giveAll_4 (nle rfl) (nle rfl) ?_
  refine go_aload_n (q := 3) (i := 3) rfl rfl dX8_giveAll_5 ?_
  refine go_aload_n (q := 2) (i := 2) rfl rfl dX8_giveAll_6 ?_
  refine go_getI lf8_15 rfl hg.o dX8_giveAll_7 ?_
  refine go_callV okmX5_clearVars lmX8_46 ⟨nle rfl, nle rfl⟩ hp.w16.o ⟨by decide, rfl⟩ (ev_clearVars hp.lo) npmX5_clearVars rfl (nle rfl) ⟨nle rfl, nle rfl⟩ dX8_giveAll_10 ?_
  rintro _ m0 ⟨rfl, h0⟩
  refine go_c0 ?_
  refine go_iconst (v := nI 0) (by decide) dX8_giveAll_13 ?_
  refine go_istore (i := 4) dX8_giveAll_14 (nle rfl) (nle rfl) ?_
  subst h0
  exact k0
theorem mvS_c {F F' T T' N : Nat → Int32} : ∀ n, (∀ i, i < n → F i = F' i) → (∀ i, i < n → T i = T' i) → mvS F T N n = mvS F' T' N n
  | 0, _, _ => rfl
  | n + 1, h1, h2 => by
    rw [mvS, mvS, mvS_c n (fun i hi => h1 i (by omega)) (fun i hi => h2 i (by omega)), h1 n (by omega), h2 n (by omega)]
theorem tS_c {P : Pl} {e F F' W W' : Nat → Int32} {k c : Nat} (h : F c = F' c) (h2 : W c = W' c) : tS P e F W k c = tS P e F' W' k c := by
  unfold tS; rw [h, h2]
theorem fgS_c {F F' W W' : Nat → Int32} {h : Int32} : ∀ n, (∀ i, i < n → F i = F' i) → (∀ i, i < n → W i = W' i) → fgS F W h n = fgS F' W' h n
  | 0, _, _ => rfl
  | n + 1, h1, h2 => by
    rw [fgS, fgS, fgS_c n (fun i hi => h1 i (by omega)) (fun i hi => h2 i (by omega)), h1 n (by omega), h2 n (by omega)]
/-- the fog behind the steps of an hour -/
def f1S (P : Pl) (wd rw gu se h : Int32) (F W : Nat → Int32) : Nat → Int32 :=
  if wS P h ≤ 0 then F
  else if guS gu se h = 0 then mvS F (tS P (eW h (wS P h)) F W 1) (nxS wd rw (wS P h)) 40
  else mvS (mvS F (tS P (eW h (wS P h)) F W 1) (nxS wd rw (wS P h)) 40) (tS P (eW h (wS P h)) (mvS F (tS P (eW h (wS P h)) F W 1) (nxS wd rw (wS P h)) 40) W 1) (nxS wd rw (wS P h)) 40
set_option maxRecDepth 100000 in
set_option maxHeartbeats 4000000 in
/-- passHour -/
theorem ev_passHour {m : Me} {pl g : Nat} {P : Pl} {se lk : Int32} (hk : Wf8 m.1 (gR m) 13) (hp : Wf7 m.1 (gR m) pl) (hg : Wf1 m.1 (gR m) g) (hL : LwC m pl P) (ok : PlOk P) (hne : g + 5 < pl ∨ pl + 14 < g) (hs1 : 14 < g) (hs2 : 14 < pl) (hh : gI m pl 2 = nI P.hd) : Ev mX8_passHour [.ref 13, .ref pl, .ref g, .int se, .int lk] m (fun r m' => r = none ∧ Ch (fun x => x = 14 ∨ x = pl + 12 ∨ x = pl + 13 ∨ x = g ∨ x = g + 1 ∨ x = g + 3) m m' ∧ (∀ k, k < 40 → gI m' (g + 1) k = thS2 P (eW (gI m g 0) (wS P (gI m g 0))) (f1S P (gI m pl 0) (gI m pl 1) (gI m pl 5) se (gI m g 0) (gI m (g + 1)) (gI m (g + 2))) (gI m (g + 2)) (gI m pl 6) lk k) ∧ gI m' g = upd (gI m g) 0 (gI m g 0 + nI 1) ∧ (∀ k, k < 4 → gI m' (g + 3) k = if (gI m g 0 + nI 1) - (gI m g 0 + nI 1) / nI 24 * nI 24 = 0 ∧ k < P.hd then giS P (gI m g 0 + nI 1) (thS2 P (eW (gI m g 0) (wS P (gI m g 0))) (f1S P (gI m pl 0) (gI m pl 1) (gI m pl 5) se (gI m g 0) (gI m (g + 1)) (gI m (g + 2))) (gI m (g + 2)) (gI m pl 6) lk) (gI m (g + 2)) (gI m (g + 3)) (gI m (pl + 3)) k else gI m (g + 3) k)) := by
  refine ⟨plmX8_passHour, nle rfl, ?_⟩
  have tail : ∀ mA : Me, Ch (fun x => x = 14 ∨ x = pl + 12 ∨ x = pl + 13 ∨ x = g + 1) m mA → LwC mA pl P → gI mA (g + 2) = gI m (g + 2) → gI mA pl = gI m pl → gI mA g = gI m g → (∀ k, k < 40 → gI mA (g + 1) k = (f1S P (gI m pl 0) (gI m pl 1) (gI m pl 5) se (gI m g 0) (gI m (g + 1)) (gI m (g + 2))) k) → hv (gI mA (pl + 12)) (eW (gI m g 0) (wS P (gI m g 0))) → Wf8 mA.1 (gR mA) 13 → Wf7 mA.1 (gR mA) pl → Wf1 mA.1 (gR mA) g → Go mX8_passHour (fun r m' => r = none ∧ Ch (fun x => x = 14 ∨ x = pl + 12 ∨ x = pl + 13 ∨ x = g ∨ x = g + 1 ∨ x = g + 3) m m' ∧ (∀ k, k < 40 → gI m' (g + 1) k = thS2 P (eW (gI m g 0) (wS P (gI m g 0))) (f1S P (gI m pl 0) (gI m pl 1) (gI m pl 5) se (gI m g 0) (gI m (g + 1)) (gI m (g + 2))) (gI m (g + 2)) (gI m pl 6) lk k) ∧ gI m' g = upd (gI m g) 0 (gI m g 0 + nI 1) ∧ (∀ k, k < 4 → gI m' (g + 3) k = if (gI m g 0 + nI 1) - (gI m g 0 + nI 1) / nI 24 * nI 24 = 0 ∧ k < P.hd then giS P (gI m g 0 + nI 1) (thS2 P (eW (gI m g 0) (wS P (gI m g 0))) (f1S P (gI m pl 0) (gI m pl 1) (gI m pl 5) se (gI m g 0) (gI m (g + 1)) (gI m (g + 2))) (gI m (g + 2)) (gI m pl 6) lk) (gI m (g + 2)) (gI m (g + 3)) (gI m (pl + 3)) k else gI m (g + 3) k)) 45 [some (.ref 13), some (.ref pl), some (.ref g), some (.int se), some (.int lk), some (.int (wS P (gI m g 0)))] [] mA 0 0 := by
    intro mA cA hLA eWA ePA eHA hfA hVA hk hp hg
    refine go_aload_n (q := 0) (i := 0) rfl rfl dX8_passHour_45 ?_
    refine go_aload_n (q := 1) (i := 1) rfl rfl dX8_passHour_46 ?_
    refine go_aload_n (q := 2) (i := 2) rfl rfl dX8_passHour_47 ?_
    refine go_iload (i := 4) rfl dX8_passHour_48 ?_
    refine go_callV okmX8_thinAll lmX8_33 ⟨nle rfl, nle rfl⟩ hk.o ⟨by decide, rfl⟩ (ev_thinAll hk hp hg hLA ok hne hs1 hs2 hVA) npmX8_thinAll rfl (nle rfl) ⟨nle rfl, nle rfl⟩ dX8_passHour_50 ?_
    rintro _ m4 ⟨rfl, hc4, hf4, hV4⟩
    rw [eWA, ePA] at hf4
    have hk := Ch.to (F := fun n R => Wf8 n R 13) hc4 hk
    have hp := Ch.to (F := fun n R => Wf7 n R pl) hc4 hp
    have hg := Ch.to (F := fun n R => Wf1 n R g) hc4 hg
    have c4 : Ch (fun x => x = 14 ∨ x = pl + 12 ∨ x = pl + 13 ∨ x = g + 1) m m4 := cA.tr (hc4.mn (fun x hx => by omega))
    have eH4 : gI m4 g = gI m g := (hc4.at (by omega)).trans eHA
    have hf5 : ∀ k, k < 40 → gI m4 (g + 1) k = thS2 P (eW (gI m g 0) (wS P (gI m g 0))) (f1S P (gI m pl 0) (gI m pl 1) (gI m pl 5) se (gI m g 0) (gI m (g + 1)) (gI m (g + 2))) (gI m (g + 2)) (gI m pl 6) lk k := by
      intro k hk2
      rw [hf4 k hk2]
      unfold thS2
      rw [hfA k hk2, tS_c (hfA k hk2) rfl]
    refine go_c0 ?_
    refine go_aload_n (q := 2) (i := 2) rfl rfl dX8_passHour_53 ?_
    refine go_dup rfl dX8_passHour_54 ?_
    refine go_getI lf8_15 rfl hg.o dX8_passHour_55 ?_
    rw [eH4]
    refine go_iconst (v := nI 1) (by decide) dX8_passHour_58 ?_
    refine go_iadd dX8_passHour_59 ?_
    refine go_putI lf8_15 rfl (Or.inl rfl) hg.o dX8_passHour_60 ?_
    generalize hm5 : sI m4 g _ = m5
    have hc5 : Ch (fun x => x = g) m4 m5 := by rw [← hm5]; exact Ch.I rfl
    have eH5 : gI m5 g = upd (gI m g) 0 (gI m g 0 + nI 1) := by rw [← hm5, gI_s, eH4]
    have eH50 : gI m5 g 0 = gI m g 0 + nI 1 := by rw [eH5]; exact if_pos rfl
    have c5 : Ch (fun x => x = 14 ∨ x = pl + 12 ∨ x = pl + 13 ∨ x = g ∨ x = g + 1 ∨ x = g + 3) m m5 := (c4.mn (fun x hx => by omega)).tr (hc5.mn (fun x hx => by omega))
    have hL5 : LwC m5 pl P := hL.keep (c5.at (by omega)) (c5.at (by omega))
    have hh5 : gI m5 pl 2 = nI P.hd := by rw [c5.at (by omega)]; exact hh
    have eF5 : gI m5 (g + 1) = gI m4 (g + 1) := hc5.at (by omega)
    have eW5 : gI m5 (g + 2) = gI m (g + 2) := c5.at (by omega)
    have eS5 : gI m5 (g + 3) = gI m (g + 3) := by rw [hc5.at (by omega), c4.at (by omega)]
    have eR5 : gI m5 (pl + 3) = gI m (pl + 3) := c5.at (by omega)
    have hk := Ch.to (F := fun n R => Wf8 n R 13) hc5 hk
    have hp := Ch.to (F := fun n R => Wf7 n R pl) hc5 hp
    have hg := Ch.to (F := fun n R => Wf1 n R g) hc5 hg
    refine go_aload_n (q := 2) (i := 2) rfl rfl dX8_passHour_63 ?_
    refine go_getI lf8_15 rfl hg.o dX8_passHour_64 ?_
    rw [eH50]
    refine go_bipush (v := nI 24) (by decide) dX8_passHour_67 ?_
    refine go_irem (by decide) dX8_passHour_69 ?_
    refine go_if_ne (tgt := 79) dX8_passHour_70 (by decide) (fun h70 => ?_) (fun h70 => ?_)
    · skip
      refine go_vret rfl ⟨Nat.zero_le _, Nat.zero_le _⟩ dX8_passHour_79 ?_
      refine ⟨rfl, c5, fun k hk2 => by rw [eF5]; exact hf5 k hk2, eH5, fun k hk2 => ?_⟩
      rw [if_neg (fun q => h70 q.1), eS5]
    · skip
      refine go_aload_n (q := 0) (i := 0) rfl rfl dX8_passHour_73 ?_
      refine go_aload_n (q := 1) (i := 1) rfl rfl dX8_passHour_74 ?_
      refine go_aload_n (q := 2) (i := 2) rfl rfl dX8_passHour_75 ?_
      refine go_callV okmX8_giveAll lmX8_36 ⟨nle rfl, nle rfl⟩ hk.o ⟨by decide, rfl⟩ (ev_giveAll hk hp hg hL5 ok hne hs1 hs2 hh5) npmX8_giveAll rfl (nle rfl) ⟨nle rfl, nle rfl⟩ dX8_passHour_76 ?_
      rintro _ m6 ⟨rfl, hc6, hs6⟩
      refine go_c0 ?_
      refine go_vret rfl ⟨Nat.zero_le _, Nat.zero_le _⟩ dX8_passHour_79 ?_
      refine ⟨rfl, c5.tr (hc6.mn (fun x hx => by omega)), fun k hk2 => by rw [hc6.at (by omega), eF5]; exact hf5 k hk2, by rw [hc6.at (by omega)]; exact eH5, fun k hk2 => ?_⟩
      rw [hs6 k hk2]
      by_cases q : k < P.hd
      · rw [if_pos q, if_pos ⟨h70, q⟩, eH50, eW5, eS5, eR5, eF5]
        unfold giS
        rw [fgS_c (F' := thS2 P (eW (gI m g 0) (wS P (gI m g 0))) (f1S P (gI m pl 0) (gI m pl 1) (gI m pl 5) se (gI m g 0) (gI m (g + 1)) (gI m (g + 2))) (gI m (g + 2)) (gI m pl 6) lk) 40 hf5 (fun _ _ => rfl)]
      · rw [if_neg q, if_neg (fun z => q z.2), eS5]
  refine go_aload_n (q := 0) (i := 0) rfl rfl dX8_passHour_0 ?_
  refine go_aload_n (q := 1) (i := 1) rfl rfl dX8_passHour_1 ?_
  refine go_aload_n (q := 2) (i := 2) rfl rfl dX8_passHour_2 ?_
  refine go_getI lf8_15 rfl hg.o dX8_passHour_3 ?_
  refine go_callV okmX8_beginHour lmX8_21 ⟨nle rfl, nle rfl⟩ hk.o ⟨by decide, rfl⟩ (ev_beginHour hk hp hL ok) npmX8_beginHour rfl (nle rfl) ⟨nle rfl, nle rfl⟩ dX8_passHour_6 ?_
  rintro _ m1 ⟨rfl, hc1, hv1⟩
  have hk := Ch.to (F := fun n R => Wf8 n R 13) hc1 hk
  have hp := Ch.to (F := fun n R => Wf7 n R pl) hc1 hp
  have hg := Ch.to (F := fun n R => Wf1 n R g) hc1 hg
  have c1 : Ch (fun x => x = 14 ∨ x = pl + 12 ∨ x = pl + 13 ∨ x = g + 1) m m1 := hc1.mn (fun x hx => by omega)
  have hL1 : LwC m1 pl P := hL.keep (c1.at (by omega)) (c1.at (by omega))
  have hV1 : hv (gI m1 (pl + 12)) (eW (gI m g 0) (wS P (gI m g 0))) := fun i hi _ _ _ _ => hv1 i hi
  have eF1 : gI m1 (g + 1) = gI m (g + 1) := hc1.at (by omega)
  have eW1 : gI m1 (g + 2) = gI m (g + 2) := c1.at (by omega)
  have eP1 : gI m1 pl = gI m pl := c1.at (by omega)
  have eH1 : gI m1 g = gI m g := c1.at (by omega)
  refine go_c1 ?_
  refine go_istore (i := 5) dX8_passHour_9 (nle rfl) (nle rfl) ?_
  refine go_iload (i := 5) rfl dX8_passHour_11 ?_
  refine go_if_le (tgt := 45) dX8_passHour_13 (by decide) (fun h13 => ?_) (fun h13 => ?_)
  · skip
    have cA : Ch (fun x => x = 14 ∨ x = pl + 12 ∨ x = pl + 13 ∨ x = g + 1) m m1 := c1
    have hLA : LwC m1 pl P := hL.keep (cA.at (by omega)) (cA.at (by omega))
    have eWA : gI m1 (g + 2) = gI m (g + 2) := cA.at (by omega)
    have ePA : gI m1 pl = gI m pl := cA.at (by omega)
    have eHA : gI m1 g = gI m g := cA.at (by omega)
    have hfA : ∀ k, k < 40 → gI m1 (g + 1) k = (f1S P (gI m pl 0) (gI m pl 1) (gI m pl 5) se (gI m g 0) (gI m (g + 1)) (gI m (g + 2))) k := by
      intro k hk2
      rw [eF1]; unfold f1S; rw [if_pos h13]
    exact tail m1 cA hLA eWA ePA eHA hfA hV1 hk hp hg
  · skip
    refine go_aload_n (q := 0) (i := 0) rfl rfl dX8_passHour_16 ?_
    refine go_aload_n (q := 1) (i := 1) rfl rfl dX8_passHour_17 ?_
    refine go_aload_n (q := 2) (i := 2) rfl rfl dX8_passHour_18 ?_
    refine go_iload (i := 5) rfl dX8_passHour_19 ?_
    refine go_callV okmX8_step lmX8_25 ⟨nle rfl, nle rfl⟩ hk.o ⟨by decide, rfl⟩ (ev_step hk hp hg hL1 ok hne hs1 hs2 hV1) npmX8_step rfl (nle rfl) ⟨nle rfl, nle rfl⟩ dX8_passHour_21 ?_
    rintro _ m2 ⟨rfl, hc2, hf2, hV2⟩
    rw [eF1, eW1, eP1] at hf2
    have hk := Ch.to (F := fun n R => Wf8 n R 13) hc2 hk
    have hp := Ch.to (F := fun n R => Wf7 n R pl) hc2 hp
    have hg := Ch.to (F := fun n R => Wf1 n R g) hc2 hg
    have c2 : Ch (fun x => x = 14 ∨ x = pl + 12 ∨ x = pl + 13 ∨ x = g + 1) m m2 := c1.tr (hc2.mn (fun x hx => by omega))
    have hL2 : LwC m2 pl P := hL.keep (c2.at (by omega)) (c2.at (by omega))
    have eW2 : gI m2 (g + 2) = gI m (g + 2) := c2.at (by omega)
    have eP2 : gI m2 pl = gI m pl := c2.at (by omega)
    have eH2 : gI m2 g = gI m g := c2.at (by omega)
    refine go_c0 ?_
    refine go_aload_n (q := 0) (i := 0) rfl rfl dX8_passHour_24 ?_
    refine go_aload_n (q := 1) (i := 1) rfl rfl dX8_passHour_25 ?_
    refine go_iload_n (q := 3) (i := 3) rfl rfl dX8_passHour_26 ?_
    refine go_aload_n (q := 2) (i := 2) rfl rfl dX8_passHour_27 ?_
    refine go_getI lf8_15 rfl hg.o dX8_passHour_28 ?_
    refine go_callV okmX8_isGust lmX8_29 ⟨nle rfl, nle rfl⟩ hk.o ⟨by decide, rfl⟩ (ev_isGust hk hp) npmX8_isGust rfl (nle rfl) ⟨nle rfl, nle rfl⟩ dX8_passHour_31 ?_
    rintro _ mz ⟨rfl, hz⟩
    subst mz
    rw [eP2, eH2]
    refine go_c1 ?_
    refine go_if_eq (tgt := 45) dX8_passHour_34 (by decide) (fun h34 => ?_) (fun h34 => ?_)
    · skip
      have cA : Ch (fun x => x = 14 ∨ x = pl + 12 ∨ x = pl + 13 ∨ x = g + 1) m m2 := c2
      have hLA : LwC m2 pl P := hL.keep (cA.at (by omega)) (cA.at (by omega))
      have eWA : gI m2 (g + 2) = gI m (g + 2) := cA.at (by omega)
      have ePA : gI m2 pl = gI m pl := cA.at (by omega)
      have eHA : gI m2 g = gI m g := cA.at (by omega)
      have hfA : ∀ k, k < 40 → gI m2 (g + 1) k = (f1S P (gI m pl 0) (gI m pl 1) (gI m pl 5) se (gI m g 0) (gI m (g + 1)) (gI m (g + 2))) k := by
        intro k hk2
        rw [hf2 k hk2]; unfold f1S; rw [if_neg h13, if_pos h34]
      exact tail m2 cA hLA eWA ePA eHA hfA hV2 hk hp hg
    · skip
      refine go_aload_n (q := 0) (i := 0) rfl rfl dX8_passHour_37 ?_
      refine go_aload_n (q := 1) (i := 1) rfl rfl dX8_passHour_38 ?_
      refine go_aload_n (q := 2) (i := 2) rfl rfl dX8_passHour_39 ?_
      refine go_iload (i := 5) rfl dX8_passHour_40 ?_
      refine go_callV okmX8_step lmX8_25 ⟨nle rfl, nle rfl⟩ hk.o ⟨by decide, rfl⟩ (ev_step hk hp hg hL2 ok hne hs1 hs2 hV2) npmX8_step rfl (nle rfl) ⟨nle rfl, nle rfl⟩ dX8_passHour_42 ?_
      rintro _ m3 ⟨rfl, hc3, hf3, hV3⟩
      rw [eW2, eP2] at hf3
      rw [mvS_c (F' := mvS (gI m (g + 1)) (tS P (eW (gI m g 0) (wS P (gI m g 0))) (gI m (g + 1)) (gI m (g + 2)) 1) (nxS (gI m pl 0) (gI m pl 1) (wS P (gI m g 0))) 40) (T' := tS P (eW (gI m g 0) (wS P (gI m g 0))) (mvS (gI m (g + 1)) (tS P (eW (gI m g 0) (wS P (gI m g 0))) (gI m (g + 1)) (gI m (g + 2)) 1) (nxS (gI m pl 0) (gI m pl 1) (wS P (gI m g 0))) 40) (gI m (g + 2)) 1) 40 hf2 (fun i hi => tS_c (hf2 i hi) rfl)] at hf3
      have hk := Ch.to (F := fun n R => Wf8 n R 13) hc3 hk
      have hp := Ch.to (F := fun n R => Wf7 n R pl) hc3 hp
      have hg := Ch.to (F := fun n R => Wf1 n R g) hc3 hg
      have c3 : Ch (fun x => x = 14 ∨ x = pl + 12 ∨ x = pl + 13 ∨ x = g + 1) m m3 := c2.tr (hc3.mn (fun x hx => by omega))
      refine go_c0 ?_
      have cA : Ch (fun x => x = 14 ∨ x = pl + 12 ∨ x = pl + 13 ∨ x = g + 1) m m3 := c3
      have hLA : LwC m3 pl P := hL.keep (cA.at (by omega)) (cA.at (by omega))
      have eWA : gI m3 (g + 2) = gI m (g + 2) := cA.at (by omega)
      have ePA : gI m3 pl = gI m pl := cA.at (by omega)
      have eHA : gI m3 g = gI m g := cA.at (by omega)
      have hfA : ∀ k, k < 40 → gI m3 (g + 1) k = (f1S P (gI m pl 0) (gI m pl 1) (gI m pl 5) se (gI m g 0) (gI m (g + 1)) (gI m (g + 2))) k := by
        intro k hk2
        rw [hf3 k hk2]; unfold f1S; rw [if_neg h13, if_neg h34]
      exact tail m3 cA hLA eWA ePA eHA hfA hV3 hk hp hg
