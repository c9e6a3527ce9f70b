theorem gw_updf {m : Me} {g c : Nat} {x : Int32} (hc : c < 40) : gw (sI m (g + 1) (upd (gI m (g + 1)) c x)) g = upd (gw m g) c x := by
  funext k
  by_cases e : k = c
  · subst e
    rw [upd_eq, ← gw_f hc, gI_s, upd_eq]
  · rw [upd_ne e]
    unfold gw
    by_cases q : k < 40
    · rw [if_pos q, if_pos q, gI_s, upd_ne e]
    · rw [if_neg q, if_neg q, gI_n (show g + 2 ≠ g + 1 by omega), gI_n (show g + 3 ≠ g + 1 by omega), gI_n (show g + 4 ≠ g + 1 by omega), gI_n (show g + 5 ≠ g + 1 by omega), gI_n (show g ≠ g + 1 by omega)]
theorem CR.upf {P : Pl} {c r : Nat → Int32} {k : Nat} {x : Int32} (hk : k < 40) (h : CR P c r) : CR P (upd c k x) (upd r k x) := by
  intro j hj
  by_cases e : j = k
  · subst e; rw [upd_eq, upd_eq, if_neg (by omega)]
  · rw [upd_ne e, upd_ne e]; exact h j hj
theorem RoOk.upf {P : Pl} {M : Nat} {r : Nat → Int32} {k v : Nat} (hk : k < 40) (l : ld P k) (hv : v ≤ 99) (h : RoOk P M r) : RoOk P M (upd r k (nI v)) := by
  obtain ⟨⟨a, b⟩, c, d, e⟩ := h
  refine ⟨⟨fun j hj => ?_, fun j hj q => ?_⟩, fun j hj q => ?_, fun j hj => ?_, ?_⟩
  · by_cases z : j = k
    · exact ⟨v, hv, by rw [z, upd_eq]⟩
    · rw [upd_ne z]; exact a j hj
  · rw [upd_ne (fun z => q (by rw [z]; exact l))]; exact b j hj q
  · rw [upd_ne (by omega)]; exact c j hj q
  · rw [upd_ne (by omega)]; exact d j hj
  · rw [upd_ne (by omega)]; exact e
noncomputable def leF (P : Pl) (r : Nat → Int32) (c n v : Nat) (th : Int32) : Nat → Option Int32 := fun i => if th ≤ hrN P (-1) P.se n (upd r c (nI (v + i))) c then some (nI i) else none
noncomputable def leS (P : Pl) (r : Nat → Int32) (x y n th : Int32) : Int32 := if ceS P x y < 0 then -1 else if inS n (nI 0) (nI 72) = nI 0 then -1 else if inS th (nI 0) (nI 99) = nI 0 then -1 else fsN (leF P r (ceS P x y).toNatClampNeg n.toNatClampNeg (r (ceS P x y).toNatClampNeg).toNatClampNeg th) (100 - (r (ceS P x y).toNatClampNeg).toNatClampNeg) 0
noncomputable def gonS (P : Pl) (r : Nat → Int32) (w : Int32) : Int32 := if inS w (nI 0) (nI 1) = nI 0 then -1 else fsN (fun t => goneF P r w t P.hd 0) 73 0
set_option maxRecDepth 100000 in
set_option maxHeartbeats 8000000 in
theorem ev_least {m : Me} {pl dr M : Nat} {P : Pl} {r : Nat → Int32} (hX : CX m.1 (gR m) pl dr) (hP : PlC m pl P) (ok : PlOk P) (hM : M < 2 ^ 18) (hr : RoOk P M r) (hc : CR P (gw m 15) r) {x y n th : Int32} : Ev mX11_least [.ref 0, .int x, .int y, .int n, .int th] m (fun o m' => o = some (.int (leS P r x y n th)) ∧ Ch (LkS pl) m m') := by
  refine ⟨plmX11_least, nle rfl, ?_⟩
  have hw8 := ok.1
  have hr5 := ok.2.1
  have hpd := hX.pd
  have hh4 := ok.2.2.1
  have hu6 := ok.2.2.2.1
  rcases ce_c ok x y with ⟨hca, hic⟩ | ⟨a, b, ha, hb, rfl, rfl, hca, hic⟩
  · skip
    refine go_aload_n (q := 0) (i := 0) rfl rfl dX11_least_0 ?_
    refine go_getR lf11_86 rfl hX.o hX.rp dX11_least_1 ?_
    refine go_iload_n (q := 1) (i := 1) rfl rfl dX11_least_4 ?_
    refine go_iload_n (q := 2) (i := 2) rfl rfl dX11_least_5 ?_
    refine go_callV okmX7_cellAt lmX11_126 ⟨nle rfl, nle rfl⟩ hX.wp.o ⟨by decide, rfl⟩ (ev_cellAt hX.wp) npmX7_cellAt rfl (nle rfl) ⟨nle rfl, nle rfl⟩ dX11_least_6 ?_
    rintro _ mz ⟨rfl, hz⟩
    subst mz
    rw [hP.wd, hP.rw, show caS (nI P.wd) (nI P.rw) _ _ = _ from hca]
    refine go_c1 ?_
    refine go_istore (i := 5) dX11_least_9 (nle rfl) (nle rfl) ?_
    refine go_iload (i := 5) rfl dX11_least_11 ?_
    refine go_if_lt (tgt := 38) dX11_least_13 (by decide) (fun h13 => ?_) (fun h13 => by exfalso; exact h13 (by decide))
    refine go_iconst (v := -1) (by decide) dX11_least_38 ?_
    refine go_iret rfl ⟨Nat.zero_le _, Nat.zero_le _⟩ dX11_least_39 ?_
    refine ⟨?_, Ch.rf⟩
    simp only [leS, hca, i10, reduceIte, cneg]
  · skip
    rcases in_c n (N := 72) (by decide) with hn | ⟨j, hj, rfl, hn⟩
    · skip
      refine go_aload_n (q := 0) (i := 0) rfl rfl dX11_least_0 ?_
      refine go_getR lf11_86 rfl hX.o hX.rp dX11_least_1 ?_
      refine go_iload_n (q := 1) (i := 1) rfl rfl dX11_least_4 ?_
      refine go_iload_n (q := 2) (i := 2) rfl rfl dX11_least_5 ?_
      refine go_callV okmX7_cellAt lmX11_126 ⟨nle rfl, nle rfl⟩ hX.wp.o ⟨by decide, rfl⟩ (ev_cellAt hX.wp) npmX7_cellAt rfl (nle rfl) ⟨nle rfl, nle rfl⟩ dX11_least_6 ?_
      rintro _ mz ⟨rfl, hz⟩
      subst mz
      rw [hP.wd, hP.rw, show caS (nI P.wd) (nI P.rw) _ _ = _ from hca]
      refine go_c1 ?_
      refine go_istore (i := 5) dX11_least_9 (nle rfl) (nle rfl) ?_
      refine go_iload (i := 5) rfl dX11_least_11 ?_
      refine gz_lt (by omega) (tgt := 38) dX11_least_13 (by decide) (fun h13 => by exfalso; omega) (fun h13 => ?_)
      refine go_iload (i := 5) rfl dX11_least_16 ?_
      refine go_bipush (v := nI 40) (by decide) dX11_least_18 ?_
      refine gn_ge (by omega) (by omega) (tgt := 38) dX11_least_20 (by decide) (fun h20 => by exfalso; omega) (fun h20 => ?_)
      refine go_iload_n (q := 3) (i := 3) rfl rfl dX11_least_23 ?_
      refine go_callS okmX11_isAhead lmX11_219 ⟨nle rfl, nle rfl⟩ (ev_isAhead) npmX11_isAhead rfl (nle rfl) ⟨nle rfl, nle rfl⟩ dX11_least_24 ?_
      rintro _ mz ⟨rfl, hz⟩
      subst mz
      rw [ah_in, hn]
      refine go_c1 ?_
      refine gz_eq (by omega) (tgt := 38) dX11_least_27 (by decide) (fun h27 => ?_) (fun h27 => by exfalso; omega)
      refine go_iconst (v := -1) (by decide) dX11_least_38 ?_
      refine go_iret rfl ⟨Nat.zero_le _, Nat.zero_le _⟩ dX11_least_39 ?_
      refine ⟨?_, Ch.rf⟩
      simp only [leS, hca, hn, i10, reduceIte, cpos (show 8 * b + a < 2 ^ 31 by omega)]
    · skip
      rcases in_c th (N := 99) (by decide) with hth | ⟨t, ht, rfl, hth⟩
      · skip
        refine go_aload_n (q := 0) (i := 0) rfl rfl dX11_least_0 ?_
        refine go_getR lf11_86 rfl hX.o hX.rp dX11_least_1 ?_
        refine go_iload_n (q := 1) (i := 1) rfl rfl dX11_least_4 ?_
        refine go_iload_n (q := 2) (i := 2) rfl rfl dX11_least_5 ?_
        refine go_callV okmX7_cellAt lmX11_126 ⟨nle rfl, nle rfl⟩ hX.wp.o ⟨by decide, rfl⟩ (ev_cellAt hX.wp) npmX7_cellAt rfl (nle rfl) ⟨nle rfl, nle rfl⟩ dX11_least_6 ?_
        rintro _ mz ⟨rfl, hz⟩
        subst mz
        rw [hP.wd, hP.rw, show caS (nI P.wd) (nI P.rw) _ _ = _ from hca]
        refine go_c1 ?_
        refine go_istore (i := 5) dX11_least_9 (nle rfl) (nle rfl) ?_
        refine go_iload (i := 5) rfl dX11_least_11 ?_
        refine gz_lt (by omega) (tgt := 38) dX11_least_13 (by decide) (fun h13 => by exfalso; omega) (fun h13 => ?_)
        refine go_iload (i := 5) rfl dX11_least_16 ?_
        refine go_bipush (v := nI 40) (by decide) dX11_least_18 ?_
        refine gn_ge (by omega) (by omega) (tgt := 38) dX11_least_20 (by decide) (fun h20 => by exfalso; omega) (fun h20 => ?_)
        refine go_iload_n (q := 3) (i := 3) rfl rfl dX11_least_23 ?_
        refine go_callS okmX11_isAhead lmX11_219 ⟨nle rfl, nle rfl⟩ (ev_isAhead) npmX11_isAhead rfl (nle rfl) ⟨nle rfl, nle rfl⟩ dX11_least_24 ?_
        rintro _ mz ⟨rfl, hz⟩
        subst mz
        rw [ah_in, hn]
        refine go_c1 ?_
        refine gz_eq (by omega) (tgt := 38) dX11_least_27 (by decide) (fun h27 => by exfalso; omega) (fun h27 => ?_)
        refine go_iload (i := 4) rfl dX11_least_30 ?_
        refine go_callS okmX11_isThick lmX11_235 ⟨nle rfl, nle rfl⟩ (ev_isThick) npmX11_isThick rfl (nle rfl) ⟨nle rfl, nle rfl⟩ dX11_least_32 ?_
        rintro _ mz ⟨rfl, hz⟩
        subst mz
        rw [th_in, hth]
        refine go_c1 ?_
        refine gz_ne (by omega) (tgt := 40) dX11_least_35 (by decide) (fun h35 => by exfalso; omega) (fun h35 => ?_)
        refine go_iconst (v := -1) (by decide) dX11_least_38 ?_
        refine go_iret rfl ⟨Nat.zero_le _, Nat.zero_le _⟩ dX11_least_39 ?_
        refine ⟨?_, Ch.rf⟩
        simp only [leS, hca, hn, hth, i10, reduceIte, cpos (show 8 * b + a < 2 ^ 31 by omega)]
      · skip
        obtain ⟨v, hv, ev⟩ := hr.1.1 (8 * b + a) (by omega)
        have key : ∀ i, i ≤ (100 - v) → ∀ mi : Me, Ch (LkS pl) m mi → fsN (leF P r (8 * b + a) j v (nI t)) (100 - v) 0 = fsN (leF P r (8 * b + a) j v (nI t)) (100 - v - i) i → Go mX11_least (fun o m' => o = some (.int (leS P r (nI a) (nI b) (nI j) (nI t))) ∧ Ch (LkS pl) m m') 58 [some (.ref 0), some (.int (nI a)), some (.int (nI b)), some (.int (nI j)), some (.int (nI t)), some (.int (nI (8 * b + a))), some (.int (nI (99 - v))), some (.int (nI i))] [] mi 0 0 := by
          refine loop_up (100 - v) ?_ ?_
          · intro mi c1 hf
            have hX0 := hX
            have hX := CX.to c1 hX
            have hP := hP.lk hX0 c1
            refine go_iload (i := 7) rfl dX11_least_58 ?_
            refine go_iload (i := 6) rfl dX11_least_60 ?_
            refine gn_gt (by omega) (by omega) (tgt := 127) dX11_least_62 (by decide) (fun h62 => ?_) (fun h62 => by exfalso; omega)
            refine go_bipush (v := -2) (by decide) dX11_least_127 ?_
            refine go_iret rfl ⟨Nat.zero_le _, Nat.zero_le _⟩ dX11_least_129 ?_
            refine ⟨?_, c1⟩
            simp only [leS, hca, hn, hth, i10, reduceIte, cpos (show 8 * b + a < 2 ^ 31 by omega), nI_clamp (show 8 * b + a < 2 ^ 31 by omega), nI_clamp (show j < 2 ^ 31 by omega), ev, nI_clamp (show v < 2 ^ 31 by omega)]
            rw [hf, fs_e]
          · intro i hi ih mi c1 hf
            have hX0 := hX
            have hX := CX.to c1 hX
            have hP := hP.lk hX0 c1
            refine go_iload (i := 7) rfl dX11_least_58 ?_
            refine go_iload (i := 6) rfl dX11_least_60 ?_
            refine gn_gt (by omega) (by omega) (tgt := 127) dX11_least_62 (by decide) (fun h62 => by exfalso; omega) (fun h62 => ?_)
            refine go_aload_n (q := 0) (i := 0) rfl rfl dX11_least_65 ?_
            refine go_getR lf11_51 rfl hX.o hX.r6 dX11_least_66 ?_
            refine go_aload_n (q := 0) (i := 0) rfl rfl dX11_least_69 ?_
            refine go_getR lf11_47 rfl hX.o hX.r5 dX11_least_70 ?_
            refine go_callV okmX1_copyFrom lmX11_205 ⟨nle rfl, nle rfl⟩ hX.w6.o ⟨by decide, rfl⟩ (ev_copyFrom hX.w6 hX.w5 (by omega)) npmX1_copyFrom rfl (nle rfl) ⟨nle rfl, nle rfl⟩ dX11_least_73 ?_
            rintro _ m2 ⟨rfl, cA, eA⟩
            have cA : Ch (LkS pl) mi m2 := cA.mn (fun x hx => by unfold LkS; omega)
            have hP := hP.lk hX cA
            have hX := CX.to cA hX
            have hc2 : CR P (gw m2 21) r := by rw [eA]; exact hc.gwto c1 hpd
            refine go_c0 ?_
            refine go_aload_n (q := 0) (i := 0) rfl rfl dX11_least_76 ?_
            refine go_getR lf11_51 rfl hX.o hX.r6 dX11_least_77 ?_
            refine go_getR lf11_130 rfl hX.w6.o hX.w6.r1 dX11_least_80 ?_
            refine go_iload (i := 5) rfl dX11_least_83 ?_
            refine go_dup2 rfl rfl dX11_least_85 ?_
            refine go_iald (j := (8 * b + a)) hX.w6.i1 (by omega) (by first | decide | omega) rfl dX11_least_86 ?_
            rw [show gI m2 (21 + 1) (8 * b + a) = nI v from ((gw_f (by omega)).trans (hc2.f (by omega))).trans ev]
            refine go_iload (i := 7) rfl dX11_least_87 ?_
            refine gn_add dX11_least_89 ?_
            refine go_iast (j := (8 * b + a)) hX.w6.i1 (by omega) (by first | decide | omega) rfl dX11_least_90 ?_
            generalize hmA : sI m2 22 _ = mA
            have cA2 : Ch (LkS pl) m2 mA := by rw [← hmA]; exact Ch.I (by unfold LkS; omega)
            have hcA : CR P (gw mA 21) (upd r (8 * b + a) (nI (v + i))) := by
              rw [← hmA, show gw (sI m2 22 (upd (gI m2 22) (8 * b + a) (nI (v + i)))) 21 = _ from gw_updf (by omega)]
              exact hc2.upf (by omega)
            have hP := hP.lk hX cA2
            have hX := CX.to cA2 hX
            refine go_aload_n (q := 0) (i := 0) rfl rfl dX11_least_91 ?_
            refine go_iload_n (q := 3) (i := 3) rfl rfl dX11_least_92 ?_
            refine go_aload_n (q := 0) (i := 0) rfl rfl dX11_least_93 ?_
            refine go_getR lf11_86 rfl hX.o hX.rp dX11_least_94 ?_
            refine go_getI lf11_208 rfl hX.wp.o dX11_least_97 ?_
            rw [hP.se]
            refine go_callV okmX11_passLater lmX11_211 ⟨nle rfl, nle rfl⟩ hX.o ⟨by decide, rfl⟩ (ev_passLater (M := M) hX hP ok (by omega) hM (hr.upf (by omega) ⟨by omega, by omega⟩ (by omega)) hcA) npmX11_passLater rfl (nle rfl) ⟨nle rfl, nle rfl⟩ dX11_least_100 ?_
            rintro _ m3 ⟨rfl, cB, hc3⟩
            have c2 : Ch (LkS pl) mi m3 := (cA.tr cA2).tr cB
            have hP := hP.lk hX cB
            have hX := CX.to cB hX
            refine go_c0 ?_
            refine go_aload_n (q := 0) (i := 0) rfl rfl dX11_least_103 ?_
            refine go_getR lf11_51 rfl hX.o hX.r6 dX11_least_104 ?_
            refine go_getR lf11_130 rfl hX.w6.o hX.w6.r1 dX11_least_107 ?_
            refine go_iload (i := 5) rfl dX11_least_110 ?_
            refine go_iald (j := (8 * b + a)) hX.w6.i1 (by omega) (by first | decide | omega) rfl dX11_least_112 ?_
            rw [show gI m3 (21 + 1) (8 * b + a) = _ from (gw_f (by omega)).trans (hc3.f (by omega))]
            refine go_iload (i := 4) rfl dX11_least_113 ?_
            refine go_icmp_lt (tgt := 121) dX11_least_115 (by decide) (fun h115 => ?_) (fun h115 => ?_)
            · skip
              refine gn_inc (i := 7) (a := i) (q := 1) rfl dX11_least_121 (nle rfl) rfl ?_
              refine go_goto (tgt := 58) dX11_least_124 (by decide) ?_
              exact ih _ (c1.tr c2) (hf.trans (fs_n hi (if_neg (Int32.not_le.mpr h115))))
            · skip
              refine go_iload (i := 7) rfl dX11_least_118 ?_
              refine go_iret rfl ⟨Nat.zero_le _, Nat.zero_le _⟩ dX11_least_120 ?_
              refine ⟨?_, (c1.tr c2)⟩
              simp only [leS, hca, hn, hth, i10, reduceIte, cpos (show 8 * b + a < 2 ^ 31 by omega), nI_clamp (show 8 * b + a < 2 ^ 31 by omega), nI_clamp (show j < 2 ^ 31 by omega), ev, nI_clamp (show v < 2 ^ 31 by omega)]
              rw [hf, fs_s hi (if_pos (Int32.not_lt.mp h115))]
        refine go_aload_n (q := 0) (i := 0) rfl rfl dX11_least_0 ?_
        refine go_getR lf11_86 rfl hX.o hX.rp dX11_least_1 ?_
        refine go_iload_n (q := 1) (i := 1) rfl rfl dX11_least_4 ?_
        refine go_iload_n (q := 2) (i := 2) rfl rfl dX11_least_5 ?_
        refine go_callV okmX7_cellAt lmX11_126 ⟨nle rfl, nle rfl⟩ hX.wp.o ⟨by decide, rfl⟩ (ev_cellAt hX.wp) npmX7_cellAt rfl (nle rfl) ⟨nle rfl, nle rfl⟩ dX11_least_6 ?_
        rintro _ mz ⟨rfl, hz⟩
        subst mz
        rw [hP.wd, hP.rw, show caS (nI P.wd) (nI P.rw) _ _ = _ from hca]
        refine go_c1 ?_
        refine go_istore (i := 5) dX11_least_9 (nle rfl) (nle rfl) ?_
        refine go_iload (i := 5) rfl dX11_least_11 ?_
        refine gz_lt (by omega) (tgt := 38) dX11_least_13 (by decide) (fun h13 => by exfalso; omega) (fun h13 => ?_)
        refine go_iload (i := 5) rfl dX11_least_16 ?_
        refine go_bipush (v := nI 40) (by decide) dX11_least_18 ?_
        refine gn_ge (by omega) (by omega) (tgt := 38) dX11_least_20 (by decide) (fun h20 => by exfalso; omega) (fun h20 => ?_)
        refine go_iload_n (q := 3) (i := 3) rfl rfl dX11_least_23 ?_
        refine go_callS okmX11_isAhead lmX11_219 ⟨nle rfl, nle rfl⟩ (ev_isAhead) npmX11_isAhead rfl (nle rfl) ⟨nle rfl, nle rfl⟩ dX11_least_24 ?_
        rintro _ mz ⟨rfl, hz⟩
        subst mz
        rw [ah_in, hn]
        refine go_c1 ?_
        refine gz_eq (by omega) (tgt := 38) dX11_least_27 (by decide) (fun h27 => by exfalso; omega) (fun h27 => ?_)
        refine go_iload (i := 4) rfl dX11_least_30 ?_
        refine go_callS okmX11_isThick lmX11_235 ⟨nle rfl, nle rfl⟩ (ev_isThick) npmX11_isThick rfl (nle rfl) ⟨nle rfl, nle rfl⟩ dX11_least_32 ?_
        rintro _ mz ⟨rfl, hz⟩
        subst mz
        rw [th_in, hth]
        refine go_c1 ?_
        refine gz_ne (by omega) (tgt := 40) dX11_least_35 (by decide) (fun h35 => ?_) (fun h35 => by exfalso; omega)
        refine go_bipush (v := nI 99) (by decide) dX11_least_40 ?_
        refine go_aload_n (q := 0) (i := 0) rfl rfl dX11_least_42 ?_
        refine go_getR lf11_47 rfl hX.o hX.r5 dX11_least_43 ?_
        refine go_getR lf11_130 rfl hX.w5.o hX.w5.r1 dX11_least_46 ?_
        refine go_iload (i := 5) rfl dX11_least_49 ?_
        refine go_iald (j := (8 * b + a)) hX.w5.i1 (by omega) (by first | decide | omega) rfl dX11_least_51 ?_
        rw [show gI m (15 + 1) (8 * b + a) = nI v from ((gw_f (by omega)).trans (hc.f (by omega))).trans ev]
        refine gn_sub (by omega) dX11_least_52 ?_
        refine go_istore (i := 6) dX11_least_53 (nle rfl) (nle rfl) ?_
        refine go_iconst (v := nI 0) (by decide) dX11_least_55 ?_
        refine go_istore (i := 7) dX11_least_56 (nle rfl) (nle rfl) ?_
        exact key 0 (Nat.zero_le _) m Ch.rf rfl
set_option maxRecDepth 100000 in
set_option maxHeartbeats 8000000 in
theorem ex_least {m : Me} {P : Pl} {lv : Nat} (hx : Wf12 m.1 (gR m)) (hm : MdC m P lv) (ok : PlOk P) {M : Nat} (hr : RoOk P M (cp 105 (gI m 315) (gI m 316))) {x y n th : Int32} : Ev mX12_least [.ref 274, .int x, .int y, .int n, .int th] m (fun o m' => o = some (.int (leS P (cp 105 (gI m 315) (gI m 316)) x y n th)) ∧ Mo m m') := by
  refine ⟨plmX12_least, nle rfl, ?_⟩
  have hw8 := ok.1
  have hr5 := ok.2.1
  have hlv := hm.lv
  have hh4 := ok.2.2.1
  have hu6 := ok.2.2.2.1
  rcases ce_c ok x y with ⟨hca, hic⟩ | ⟨a, b, ha, hb, rfl, rfl, hca, hic⟩
  · skip
    refine go_aload_n (q := 0) (i := 0) rfl rfl dX12_least_0 ?_
    refine go_iload_n (q := 1) (i := 1) rfl rfl dX12_least_1 ?_
    refine go_iload_n (q := 2) (i := 2) rfl rfl dX12_least_2 ?_
    refine go_callV okmX12_isCell lmX12_394 ⟨nle rfl, nle rfl⟩ hx.o ⟨by decide, rfl⟩ (ex_isCell hx hm) npmX12_isCell rfl (nle rfl) ⟨nle rfl, nle rfl⟩ dX12_least_3 ?_
    rintro _ mz ⟨rfl, hz⟩
    subst mz
    rw [hic]
    refine go_c1 ?_
    refine gz_eq (by omega) (tgt := 24) dX12_least_6 (by decide) (fun h6 => ?_) (fun h6 => by exfalso; omega)
    refine go_iconst (v := -1) (by decide) dX12_least_24 ?_
    refine go_iret rfl ⟨Nat.zero_le _, Nat.zero_le _⟩ dX12_least_25 ?_
    refine ⟨?_, Mo.rf⟩
    simp only [leS, hca, i10, reduceIte, cneg]
  · skip
    rcases in_c n (N := 72) (by decide) with hn | ⟨j, hj, rfl, hn⟩
    · skip
      refine go_aload_n (q := 0) (i := 0) rfl rfl dX12_least_0 ?_
      refine go_iload_n (q := 1) (i := 1) rfl rfl dX12_least_1 ?_
      refine go_iload_n (q := 2) (i := 2) rfl rfl dX12_least_2 ?_
      refine go_callV okmX12_isCell lmX12_394 ⟨nle rfl, nle rfl⟩ hx.o ⟨by decide, rfl⟩ (ex_isCell hx hm) npmX12_isCell rfl (nle rfl) ⟨nle rfl, nle rfl⟩ dX12_least_3 ?_
      rintro _ mz ⟨rfl, hz⟩
      subst mz
      rw [hic]
      refine go_c1 ?_
      refine gz_eq (by omega) (tgt := 24) dX12_least_6 (by decide) (fun h6 => by exfalso; omega) (fun h6 => ?_)
      refine go_iload_n (q := 3) (i := 3) rfl rfl dX12_least_9 ?_
      refine go_callS okmX12_isLong lmX12_441 ⟨nle rfl, nle rfl⟩ (ex_isLong) npmX12_isLong rfl (nle rfl) ⟨nle rfl, nle rfl⟩ dX12_least_10 ?_
      rintro _ mz ⟨rfl, hz⟩
      subst mz
      rw [hn]
      refine go_c1 ?_
      refine gz_eq (by omega) (tgt := 24) dX12_least_13 (by decide) (fun h13 => ?_) (fun h13 => by exfalso; omega)
      refine go_iconst (v := -1) (by decide) dX12_least_24 ?_
      refine go_iret rfl ⟨Nat.zero_le _, Nat.zero_le _⟩ dX12_least_25 ?_
      refine ⟨?_, Mo.rf⟩
      simp only [leS, hca, hn, i10, reduceIte, cpos (show 8 * b + a < 2 ^ 31 by omega)]
    · skip
      rcases in_c th (N := 99) (by decide) with hth | ⟨t, ht, rfl, hth⟩
      · skip
        refine go_aload_n (q := 0) (i := 0) rfl rfl dX12_least_0 ?_
        refine go_iload_n (q := 1) (i := 1) rfl rfl dX12_least_1 ?_
        refine go_iload_n (q := 2) (i := 2) rfl rfl dX12_least_2 ?_
        refine go_callV okmX12_isCell lmX12_394 ⟨nle rfl, nle rfl⟩ hx.o ⟨by decide, rfl⟩ (ex_isCell hx hm) npmX12_isCell rfl (nle rfl) ⟨nle rfl, nle rfl⟩ dX12_least_3 ?_
        rintro _ mz ⟨rfl, hz⟩
        subst mz
        rw [hic]
        refine go_c1 ?_
        refine gz_eq (by omega) (tgt := 24) dX12_least_6 (by decide) (fun h6 => by exfalso; omega) (fun h6 => ?_)
        refine go_iload_n (q := 3) (i := 3) rfl rfl dX12_least_9 ?_
        refine go_callS okmX12_isLong lmX12_441 ⟨nle rfl, nle rfl⟩ (ex_isLong) npmX12_isLong rfl (nle rfl) ⟨nle rfl, nle rfl⟩ dX12_least_10 ?_
        rintro _ mz ⟨rfl, hz⟩
        subst mz
        rw [hn]
        refine go_c1 ?_
        refine gz_eq (by omega) (tgt := 24) dX12_least_13 (by decide) (fun h13 => by exfalso; omega) (fun h13 => ?_)
        refine go_iload (i := 4) rfl dX12_least_16 ?_
        refine go_callS okmX12_isThick lmX12_447 ⟨nle rfl, nle rfl⟩ (ex_isThick) npmX12_isThick rfl (nle rfl) ⟨nle rfl, nle rfl⟩ dX12_least_18 ?_
        rintro _ mz ⟨rfl, hz⟩
        subst mz
        rw [hth]
        refine go_c1 ?_
        refine gz_ne (by omega) (tgt := 26) dX12_least_21 (by decide) (fun h21 => by exfalso; omega) (fun h21 => ?_)
        refine go_iconst (v := -1) (by decide) dX12_least_24 ?_
        refine go_iret rfl ⟨Nat.zero_le _, Nat.zero_le _⟩ dX12_least_25 ?_
        refine ⟨?_, Mo.rf⟩
        simp only [leS, hca, hn, hth, i10, reduceIte, cpos (show 8 * b + a < 2 ^ 31 by omega)]
      · skip
        obtain ⟨v, hv, ev⟩ := hr.1.1 (8 * b + a) (by omega)
        have ev0 : gI m 315 (8 * b + a) = nI v := by rw [← ev]; exact (cp_in (by omega)).symm
        have key : ∀ i, i ≤ (100 - v) → ∀ mi : Me, Mo m mi → (∀ k, 105 ≤ k → gI mi 316 k = gI m 316 k) → fsN (leF P (cp 105 (gI m 315) (gI m 316)) (8 * b + a) j v (nI t)) (100 - v) 0 = fsN (leF P (cp 105 (gI m 315) (gI m 316)) (8 * b + a) j v (nI t)) (100 - v - i) i → Go mX12_least (fun o m' => o = some (.int (leS P (cp 105 (gI m 315) (gI m 316)) (nI a) (nI b) (nI j) (nI t))) ∧ Mo m m') 29 [some (.ref 274), some (.int (nI a)), some (.int (nI b)), some (.int (nI j)), some (.int (nI t)), some (.int (nI i))] [] mi 0 0 := by
          refine loop_up (100 - v) ?_ ?_
          · intro mi c1 go hf
            have hx := c1.wf hx
            have hm := c1.md hm
            have hx0 := hx
            have hm0 := hm
            refine go_iload (i := 5) rfl dX12_least_29 ?_
            refine go_aload_n (q := 0) (i := 0) rfl rfl dX12_least_31 ?_
            refine go_getR lf12_140 rfl hx.o hx.r58 dX12_least_32 ?_
            refine go_bipush (v := nI 8) (by decide) dX12_least_35 ?_
            refine go_iload_n (q := 2) (i := 2) rfl rfl dX12_least_37 ?_
            refine gn_mul dX12_least_38 ?_
            refine go_iload_n (q := 1) (i := 1) rfl rfl dX12_least_39 ?_
            refine gn_add dX12_least_40 ?_
            refine go_iald (j := ((8 * b) + a)) hx.i58 (by omega) (by first | decide | omega) rfl dX12_least_41 ?_
            rw [c1.1.at (show ¬ _ by omega), show gI m 315 (8 * b + a) = nI v from ev0]
            refine gn_add dX12_least_42 ?_
            refine go_bipush (v := nI 99) (by decide) dX12_least_43 ?_
            refine gn_gt (by omega) (by omega) (tgt := 98) dX12_least_45 (by decide) (fun h45 => ?_) (fun h45 => by exfalso; omega)
            refine go_bipush (v := -2) (by decide) dX12_least_98 ?_
            refine go_iret rfl ⟨Nat.zero_le _, Nat.zero_le _⟩ dX12_least_100 ?_
            refine ⟨?_, c1⟩
            simp only [leS, hca, hn, hth, i10, reduceIte, cpos (show 8 * b + a < 2 ^ 31 by omega), nI_clamp (show 8 * b + a < 2 ^ 31 by omega), nI_clamp (show j < 2 ^ 31 by omega), ev, nI_clamp (show v < 2 ^ 31 by omega)]
            rw [hf, fs_e]
          · intro i hi ih mi c1 go hf
            have hx := c1.wf hx
            have hm := c1.md hm
            have hx0 := hx
            have hm0 := hm
            refine go_iload (i := 5) rfl dX12_least_29 ?_
            refine go_aload_n (q := 0) (i := 0) rfl rfl dX12_least_31 ?_
            refine go_getR lf12_140 rfl hx.o hx.r58 dX12_least_32 ?_
            refine go_bipush (v := nI 8) (by decide) dX12_least_35 ?_
            refine go_iload_n (q := 2) (i := 2) rfl rfl dX12_least_37 ?_
            refine gn_mul dX12_least_38 ?_
            refine go_iload_n (q := 1) (i := 1) rfl rfl dX12_least_39 ?_
            refine gn_add dX12_least_40 ?_
            refine go_iald (j := ((8 * b) + a)) hx.i58 (by omega) (by first | decide | omega) rfl dX12_least_41 ?_
            rw [c1.1.at (show ¬ _ by omega), show gI m 315 (8 * b + a) = nI v from ev0]
            refine gn_add dX12_least_42 ?_
            refine go_bipush (v := nI 99) (by decide) dX12_least_43 ?_
            refine gn_gt (by omega) (by omega) (tgt := 98) dX12_least_45 (by decide) (fun h45 => by exfalso; omega) (fun h45 => ?_)
            refine go_aload_n (q := 0) (i := 0) rfl rfl dX12_least_48 ?_
            refine go_callV okmX12_copies lmX12_413 ⟨nle rfl, nle rfl⟩ hx.o ⟨by decide, rfl⟩ (ex_copies hx hm) npmX12_copies rfl (nle rfl) ⟨nle rfl, nle rfl⟩ dX12_least_49 ?_
            rintro _ m1 ⟨rfl, cA, e1, s1, l1, -⟩
            have e1 : gI m1 316 = (cp 105 (gI m 315) (gI m 316)) := by
              rw [e1, c1.1.at (show ¬ _ by omega), cp_same go]
            have hx := cA.wf hx
            have hm := cA.md hm
            refine go_c0 ?_
            refine go_aload_n (q := 0) (i := 0) rfl rfl dX12_least_52 ?_
            refine go_getR lf12_143 rfl hx.o hx.r59 dX12_least_53 ?_
            refine go_bipush (v := nI 8) (by decide) dX12_least_56 ?_
            refine go_iload_n (q := 2) (i := 2) rfl rfl dX12_least_58 ?_
            refine gn_mul dX12_least_59 ?_
            refine go_iload_n (q := 1) (i := 1) rfl rfl dX12_least_60 ?_
            refine gn_add dX12_least_61 ?_
            refine go_dup2 rfl rfl dX12_least_62 ?_
            refine go_iald (j := ((8 * b) + a)) hx.i59 (by omega) (by first | decide | omega) rfl dX12_least_63 ?_
            rw [e1, ev]
            refine go_iload (i := 5) rfl dX12_least_64 ?_
            refine gn_add dX12_least_66 ?_
            refine go_iast (j := ((8 * b) + a)) hx.i59 (by omega) (by first | decide | omega) rfl dX12_least_67 ?_
            rw [e1]
            generalize hmA : sI m1 316 _ = mA
            have eA1 : gI mA 274 61 = -1 := by rw [← hmA, gI_n (by decide)]; exact l1
            have eA2 : gI mA 274 60 = P.se := by rw [← hmA, gI_n (by decide)]; exact s1
            have eA3 : gI mA 316 = upd (cp 105 (gI m 315) (gI m 316)) (8 * b + a) (nI (v + i)) := by rw [← hmA, gI_s]
            have cC : Mo mi mA := cA.tr (Mh.of (by rw [← hmA]; exact Ch.I (by omega))).1
            have hx := cC.wf hx0
            have hm := cC.md hm0
            refine go_aload_n (q := 0) (i := 0) rfl rfl dX12_least_68 ?_
            refine go_iload_n (q := 3) (i := 3) rfl rfl dX12_least_69 ?_
            refine go_callV okmX12_goes lmX12_438 ⟨nle rfl, nle rfl⟩ hx.o ⟨by decide, rfl⟩ (ex_goes hx hm ok (by omega)) npmX12_goes rfl (nle rfl) ⟨nle rfl, nle rfl⟩ dX12_least_70 ?_
            rintro _ m3 ⟨rfl, cB, e3⟩
            have e3 : gI m3 316 = hrN P (-1) P.se j (upd (cp 105 (gI m 315) (gI m 316)) (8 * b + a) (nI (v + i))) := by rw [e3, eA1, eA2, eA3]
            have c3 : Mo mi m3 := cC.tr cB.1
            have hx := cB.1.wf hx
            have hm := cB.1.md hm
            refine go_c0 ?_
            refine go_aload_n (q := 0) (i := 0) rfl rfl dX12_least_73 ?_
            refine go_getR lf12_143 rfl hx.o hx.r59 dX12_least_74 ?_
            refine go_bipush (v := nI 8) (by decide) dX12_least_77 ?_
            refine go_iload_n (q := 2) (i := 2) rfl rfl dX12_least_79 ?_
            refine gn_mul dX12_least_80 ?_
            refine go_iload_n (q := 1) (i := 1) rfl rfl dX12_least_81 ?_
            refine gn_add dX12_least_82 ?_
            refine go_iald (j := ((8 * b) + a)) hx.i59 (by omega) (by first | decide | omega) rfl dX12_least_83 ?_
            rw [e3]
            refine go_iload (i := 4) rfl dX12_least_84 ?_
            refine go_icmp_lt (tgt := 92) dX12_least_86 (by decide) (fun h86 => ?_) (fun h86 => ?_)
            · skip
              refine gn_inc (i := 5) (a := i) (q := 1) rfl dX12_least_92 (nle rfl) rfl ?_
              refine go_goto (tgt := 29) dX12_least_95 (by decide) ?_
              refine ih _ (c1.tr c3) (fun k hk => ?_) (hf.trans (fs_n hi (if_neg (Int32.not_le.mpr h86))))
              rw [e3, hrN_out hh4 hk, upd_ne (by omega), cp_out hk]
            · skip
              refine go_iload (i := 5) rfl dX12_least_89 ?_
              refine go_iret rfl ⟨Nat.zero_le _, Nat.zero_le _⟩ dX12_least_91 ?_
              refine ⟨?_, (c1.tr c3)⟩
              simp only [leS, hca, hn, hth, i10, reduceIte, cpos (show 8 * b + a < 2 ^ 31 by omega), nI_clamp (show 8 * b + a < 2 ^ 31 by omega), nI_clamp (show j < 2 ^ 31 by omega), ev, nI_clamp (show v < 2 ^ 31 by omega)]
              rw [hf, fs_s hi (if_pos (Int32.not_lt.mp h86))]
        refine go_aload_n (q := 0) (i := 0) rfl rfl dX12_least_0 ?_
        refine go_iload_n (q := 1) (i := 1) rfl rfl dX12_least_1 ?_
        refine go_iload_n (q := 2) (i := 2) rfl rfl dX12_least_2 ?_
        refine go_callV okmX12_isCell lmX12_394 ⟨nle rfl, nle rfl⟩ hx.o ⟨by decide, rfl⟩ (ex_isCell hx hm) npmX12_isCell rfl (nle rfl) ⟨nle rfl, nle rfl⟩ dX12_least_3 ?_
        rintro _ mz ⟨rfl, hz⟩
        subst mz
        rw [hic]
        refine go_c1 ?_
        refine gz_eq (by omega) (tgt := 24) dX12_least_6 (by decide) (fun h6 => by exfalso; omega) (fun h6 => ?_)
        refine go_iload_n (q := 3) (i := 3) rfl rfl dX12_least_9 ?_
        refine go_callS okmX12_isLong lmX12_441 ⟨nle rfl, nle rfl⟩ (ex_isLong) npmX12_isLong rfl (nle rfl) ⟨nle rfl, nle rfl⟩ dX12_least_10 ?_
        rintro _ mz ⟨rfl, hz⟩
        subst mz
        rw [hn]
        refine go_c1 ?_
        refine gz_eq (by omega) (tgt := 24) dX12_least_13 (by decide) (fun h13 => by exfalso; omega) (fun h13 => ?_)
        refine go_iload (i := 4) rfl dX12_least_16 ?_
        refine go_callS okmX12_isThick lmX12_447 ⟨nle rfl, nle rfl⟩ (ex_isThick) npmX12_isThick rfl (nle rfl) ⟨nle rfl, nle rfl⟩ dX12_least_18 ?_
        rintro _ mz ⟨rfl, hz⟩
        subst mz
        rw [hth]
        refine go_c1 ?_
        refine gz_ne (by omega) (tgt := 26) dX12_least_21 (by decide) (fun h21 => ?_) (fun h21 => by exfalso; omega)
        refine go_iconst (v := nI 0) (by decide) dX12_least_26 ?_
        refine go_istore (i := 5) dX12_least_27 (nle rfl) (nle rfl) ?_
        exact key 0 (Nat.zero_le _) m Mo.rf (fun _ _ => rfl) rfl
theorem gn_s {P : Pl} {r : Nat → Int32} {w : Int32} {t q : Nat} (hq : q < P.hd) (h1 : 0 < ctY (fun c => hrN P (-1) P.se t r (40 + c)) (nI q) P.wd P.rw) (h2 : fgY (hrN P (-1) P.se t r) (fun c => hrN P (-1) P.se t r (40 + c)) (nI q) P.wd P.rw = nI 0) : goneF P r w t (P.hd - q) q = some (if w = nI 0 then nI q else nI t) := by
  obtain ⟨k, hk⟩ : ∃ k, P.hd - q = k + 1 := ⟨P.hd - q - 1, by omega⟩
  rw [hk]
  exact if_pos ⟨h1, h2⟩
theorem gn_n {P : Pl} {r : Nat → Int32} {w : Int32} {t q : Nat} (hq : q < P.hd) (h : ¬ (0 < ctY (fun c => hrN P (-1) P.se t r (40 + c)) (nI q) P.wd P.rw ∧ fgY (hrN P (-1) P.se t r) (fun c => hrN P (-1) P.se t r (40 + c)) (nI q) P.wd P.rw = nI 0)) : goneF P r w t (P.hd - q) q = goneF P r w t (P.hd - (q + 1)) (q + 1) := by
  obtain ⟨k, hk⟩ : ∃ k, P.hd - q = k + 1 := ⟨P.hd - q - 1, by omega⟩
  rw [hk, show P.hd - (q + 1) = k by omega]
  exact if_neg h
theorem gn_e {P : Pl} {r : Nat → Int32} {w : Int32} {t : Nat} : goneF P r w t (P.hd - P.hd) P.hd = none := by rw [Nat.sub_self]; rfl
set_option maxRecDepth 100000 in
set_option maxHeartbeats 8000000 in
theorem ev_gone {m : Me} {pl dr M : Nat} {P : Pl} {r : Nat → Int32} (hX : CX m.1 (gR m) pl dr) (hP : PlC m pl P) (ok : PlOk P) (hM : M < 2 ^ 18) (hr : RoOk P M r) (hc : CR P (gw m 15) r) {w : Int32} : Ev mX11_gone [.ref 0, .int w] m (fun o m' => o = some (.int (gonS P r w)) ∧ Ch (LkS pl) m m') := by
  refine ⟨plmX11_gone, nle rfl, ?_⟩
  have hw8 := ok.1
  have hr5 := ok.2.1
  have hpd := hX.pd
  have hh4 := ok.2.2.1
  have hu6 := ok.2.2.2.1
  rcases in_c w (N := 1) (by decide) with hw | ⟨k, hk, rfl, hw⟩
  · skip
    refine go_iload_n (q := 1) (i := 1) rfl rfl dX11_gone_0 ?_
    refine go_if_lt (tgt := 9) dX11_gone_1 (by decide) (fun h1 => ?_) (fun h1 => ?_)
    · skip
      refine go_iconst (v := -1) (by decide) dX11_gone_9 ?_
      refine go_iret rfl ⟨Nat.zero_le _, Nat.zero_le _⟩ dX11_gone_10 ?_
      refine ⟨?_, Ch.rf⟩
      simp only [gonS, hw, i10, reduceIte]
    · skip
      refine go_iload_n (q := 1) (i := 1) rfl rfl dX11_gone_4 ?_
      refine go_iconst (v := nI 1) (by decide) dX11_gone_5 ?_
      refine go_icmp_le (tgt := 11) dX11_gone_6 (by decide) (fun h6 => by exfalso; exact (in_n hw).elim h1 (fun q => absurd q (Int32.not_lt.mpr h6))) (fun h6 => ?_)
      refine go_iconst (v := -1) (by decide) dX11_gone_9 ?_
      refine go_iret rfl ⟨Nat.zero_le _, Nat.zero_le _⟩ dX11_gone_10 ?_
      refine ⟨?_, Ch.rf⟩
      simp only [gonS, hw, i10, reduceIte]
  · skip
    rcases (show k = 0 ∨ k = 1 by omega) with rfl | rfl
    · skip
      have key : ∀ i, i ≤ 73 → ∀ mi : Me, Ch (LkS pl) m mi → CR P (gw mi 21) (hrN P (-1) P.se i r) → fsN (fun t => goneF P r (nI 0) t P.hd 0) 73 0 = fsN (fun t => goneF P r (nI 0) t P.hd 0) (73 - i) i → ∀ x3 : Option Value, Go mX11_gone (fun o m' => o = some (.int (gonS P r (nI 0))) ∧ Ch (LkS pl) m m') 24 [some (.ref 0), some (.int (nI 0)), some (.int (nI i)), x3] [] mi 0 0 := by
        refine loop_up 73 ?_ ?_
        · intro mi c1 hci hf x3
          have hX0 := hX
          have hX := CX.to c1 hX
          have hP := hP.lk hX0 c1
          refine go_iload_n (q := 2) (i := 2) rfl rfl dX11_gone_24 ?_
          refine go_bipush (v := nI 72) (by decide) dX11_gone_25 ?_
          refine gn_gt (by omega) (by omega) (tgt := 110) dX11_gone_27 (by decide) (fun h27 => ?_) (fun h27 => by exfalso; omega)
          refine go_bipush (v := -2) (by decide) dX11_gone_110 ?_
          refine go_iret rfl ⟨Nat.zero_le _, Nat.zero_le _⟩ dX11_gone_112 ?_
          refine ⟨?_, c1⟩
          simp only [gonS, hw, i10, reduceIte]
          rw [hf, fs_e]
        · intro i hi ih mi c1 hci hf x3
          have hX0 := hX
          have hX := CX.to c1 hX
          have hP := hP.lk hX0 c1
          refine go_iload_n (q := 2) (i := 2) rfl rfl dX11_gone_24 ?_
          refine go_bipush (v := nI 72) (by decide) dX11_gone_25 ?_
          refine gn_gt (by omega) (by omega) (tgt := 110) dX11_gone_27 (by decide) (fun h27 => by exfalso; omega) (fun h27 => ?_)
          refine go_iconst (v := nI 0) (by decide) dX11_gone_30 ?_
          refine go_istore_n (q := 3) (i := 3) rfl dX11_gone_31 (nle rfl) (nle rfl) ?_
          have key2 : ∀ q, q ≤ P.hd → goneF P r (nI 0) i P.hd 0 = goneF P r (nI 0) i (P.hd - q) q → Go mX11_gone (fun o m' => o = some (.int (gonS P r (nI 0))) ∧ Ch (LkS pl) m m') 32 [some (.ref 0), some (.int (nI 0)), some (.int (nI i)), some (.int (nI q))] [] mi 0 0 := by
            refine loop_up P.hd ?_ ?_
            · intro hg
              refine go_iload_n (q := 3) (i := 3) rfl rfl dX11_gone_32 ?_
              refine go_aload_n (q := 0) (i := 0) rfl rfl dX11_gone_33 ?_
              refine go_getR lf11_86 rfl hX.o hX.rp dX11_gone_34 ?_
              refine go_getI lf11_271 rfl hX.wp.o dX11_gone_37 ?_
              rw [hP.hd]
              refine gn_ge (by omega) (by omega) (tgt := 81) dX11_gone_40 (by decide) (fun h40 => ?_) (fun h40 => by exfalso; omega)
              refine go_aload_n (q := 0) (i := 0) rfl rfl dX11_gone_81 ?_
              refine go_getR lf11_40 rfl hX.o hX.r4 dX11_gone_82 ?_
              refine go_aload_n (q := 0) (i := 0) rfl rfl dX11_gone_85 ?_
              refine go_getR lf11_86 rfl hX.o hX.rp dX11_gone_86 ?_
              refine go_aload_n (q := 0) (i := 0) rfl rfl dX11_gone_89 ?_
              refine go_getR lf11_51 rfl hX.o hX.r6 dX11_gone_90 ?_
              refine go_aload_n (q := 0) (i := 0) rfl rfl dX11_gone_93 ?_
              refine go_getR lf11_86 rfl hX.o hX.rp dX11_gone_94 ?_
              refine go_getI lf11_208 rfl hX.wp.o dX11_gone_97 ?_
              rw [hP.se]
              refine go_iconst (v := -1) (by decide) dX11_gone_100 ?_
              refine go_callV okmX8_passHour lmX11_238 ⟨nle rfl, nle rfl⟩ hX.w4.o ⟨by decide, rfl⟩ (ev_hour (M := M + i) (se := P.se) (lk := -1) hX.w4 hX.wp hX.w6 hP ok (by omega) (by omega) (by omega) (by omega) (hrN_ok ok hr i (by omega)) hci) npmX8_passHour rfl (nle rfl) ⟨nle rfl, nle rfl⟩ dX11_gone_101 ?_
              rintro _ m2 ⟨rfl, c2, h2⟩
              have c2 : Ch (LkS pl) mi m2 := c2.mn (fun x hx => by unfold LkS; omega)
              refine go_c0 ?_
              refine gn_inc (i := 2) (a := i) (q := 1) rfl dX11_gone_104 (nle rfl) rfl ?_
              refine go_goto (tgt := 24) dX11_gone_107 (by decide) ?_
              exact ih _ (c1.tr c2) h2 (hf.trans (fs_n hi (hg.trans gn_e))) _
            · intro q hq ihq hg
              refine go_iload_n (q := 3) (i := 3) rfl rfl dX11_gone_32 ?_
              refine go_aload_n (q := 0) (i := 0) rfl rfl dX11_gone_33 ?_
              refine go_getR lf11_86 rfl hX.o hX.rp dX11_gone_34 ?_
              refine go_getI lf11_271 rfl hX.wp.o dX11_gone_37 ?_
              rw [hP.hd]
              refine gn_ge (by omega) (by omega) (tgt := 81) dX11_gone_40 (by decide) (fun h40 => by exfalso; omega) (fun h40 => ?_)
              refine go_aload_n (q := 0) (i := 0) rfl rfl dX11_gone_43 ?_
              refine go_getR lf11_51 rfl hX.o hX.r6 dX11_gone_44 ?_
              refine go_iload_n (q := 3) (i := 3) rfl rfl dX11_gone_47 ?_
              refine go_callV okmX1_cellsOf lmX11_159 ⟨nle rfl, nle rfl⟩ hX.w6.o ⟨by decide, rfl⟩ (ev_cellsOf hX.w6) npmX1_cellsOf rfl (nle rfl) ⟨nle rfl, nle rfl⟩ dX11_gone_48 ?_
              rintro _ mz ⟨rfl, hz⟩
              subst mz
              rw [gw_ct ok hci (i1m _ (by omega))]
              have hct : ctY (fun c => (hrN P (-1) P.se i r) (40 + c)) (nI q) P.wd P.rw < 2 ^ 20 := Nat.lt_of_le_of_lt (Nat.le_trans (ctY_le _ _ _ _) (Nat.mul_le_mul hr5 hw8)) (show 5 * 8 < 2 ^ 20 by decide)
              refine go_c1 ?_
              refine gz_le (by omega) (tgt := 75) dX11_gone_51 (by decide) (fun h51 => ?_) (fun h51 => ?_)
              · skip
                refine gn_inc (i := 3) (a := q) (q := 1) rfl dX11_gone_75 (nle rfl) rfl ?_
                refine go_goto (tgt := 32) dX11_gone_78 (by decide) ?_
                exact ihq (hg.trans (gn_n hq (fun z => absurd z.1 (by omega))))
              · skip
                refine go_aload_n (q := 0) (i := 0) rfl rfl dX11_gone_54 ?_
                refine go_getR lf11_51 rfl hX.o hX.r6 dX11_gone_55 ?_
                refine go_iload_n (q := 3) (i := 3) rfl rfl dX11_gone_58 ?_
                refine go_callV okmX1_fogOf lmX11_163 ⟨nle rfl, nle rfl⟩ hX.w6.o ⟨by decide, rfl⟩ (ev_fogOf hX.w6) npmX1_fogOf rfl (nle rfl) ⟨nle rfl, nle rfl⟩ dX11_gone_59 ?_
                rintro _ mz ⟨rfl, hz⟩
                subst mz
                rw [gw_fg ok hci (i1m _ (by omega))]
                refine go_c1 ?_
                refine go_if_ne (tgt := 75) dX11_gone_62 (by decide) (fun h62 => ?_) (fun h62 => ?_)
                · skip
                  refine gn_inc (i := 3) (a := q) (q := 1) rfl dX11_gone_75 (nle rfl) rfl ?_
                  refine go_goto (tgt := 32) dX11_gone_78 (by decide) ?_
                  exact ihq (hg.trans (gn_n hq (fun z => h62 (z.2.trans nI_0))))
                · skip
                  refine go_iload_n (q := 1) (i := 1) rfl rfl dX11_gone_65 ?_
                  refine gz_ne (by omega) (tgt := 73) dX11_gone_66 (by decide) (fun h66 => by exfalso; omega) (fun h66 => ?_)
                  refine go_iload_n (q := 3) (i := 3) rfl rfl dX11_gone_69 ?_
                  refine go_goto (tgt := 74) dX11_gone_70 (by decide) ?_
                  refine go_iret rfl ⟨Nat.zero_le _, Nat.zero_le _⟩ dX11_gone_74 ?_
                  refine ⟨?_, c1⟩
                  simp only [gonS, hw, i10, reduceIte]
                  rw [hf, fs_s hi (hg.trans (gn_s hq (by omega) (h62.trans nI_0.symm)))]
                  rw [if_pos rfl]
          exact key2 0 (Nat.zero_le _) rfl
      refine go_iload_n (q := 1) (i := 1) rfl rfl dX11_gone_0 ?_
      refine gz_lt (by omega) (tgt := 9) dX11_gone_1 (by decide) (fun h1 => by exfalso; omega) (fun h1 => ?_)
      refine go_iload_n (q := 1) (i := 1) rfl rfl dX11_gone_4 ?_
      refine go_iconst (v := nI 1) (by decide) dX11_gone_5 ?_
      refine gn_le (by omega) (by omega) (tgt := 11) dX11_gone_6 (by decide) (fun h6 => ?_) (fun h6 => by exfalso; omega)
      refine go_aload_n (q := 0) (i := 0) rfl rfl dX11_gone_11 ?_
      refine go_getR lf11_51 rfl hX.o hX.r6 dX11_gone_12 ?_
      refine go_aload_n (q := 0) (i := 0) rfl rfl dX11_gone_15 ?_
      refine go_getR lf11_47 rfl hX.o hX.r5 dX11_gone_16 ?_
      refine go_callV okmX1_copyFrom lmX11_205 ⟨nle rfl, nle rfl⟩ hX.w6.o ⟨by decide, rfl⟩ (ev_copyFrom hX.w6 hX.w5 (by omega)) npmX1_copyFrom rfl (nle rfl) ⟨nle rfl, nle rfl⟩ dX11_gone_19 ?_
      rintro _ m1 ⟨rfl, cA, eA⟩
      have c1 : Ch (LkS pl) m m1 := cA.mn (fun x hx => by unfold LkS; omega)
      have hP := hP.lk hX c1
      have hX := CX.to c1 hX
      have hc1 : CR P (gw m1 21) r := by rw [eA]; exact hc
      refine go_c0 ?_
      refine go_iconst (v := nI 0) (by decide) dX11_gone_22 ?_
      refine go_istore_n (q := 2) (i := 2) rfl dX11_gone_23 (nle rfl) (nle rfl) ?_
      exact key 0 (Nat.zero_le _) m1 c1 hc1 rfl _
    · skip
      have key : ∀ i, i ≤ 73 → ∀ mi : Me, Ch (LkS pl) m mi → CR P (gw mi 21) (hrN P (-1) P.se i r) → fsN (fun t => goneF P r (nI 1) t P.hd 0) 73 0 = fsN (fun t => goneF P r (nI 1) t P.hd 0) (73 - i) i → ∀ x3 : Option Value, Go mX11_gone (fun o m' => o = some (.int (gonS P r (nI 1))) ∧ Ch (LkS pl) m m') 24 [some (.ref 0), some (.int (nI 1)), some (.int (nI i)), x3] [] mi 0 0 := by
        refine loop_up 73 ?_ ?_
        · intro mi c1 hci hf x3
          have hX0 := hX
          have hX := CX.to c1 hX
          have hP := hP.lk hX0 c1
          refine go_iload_n (q := 2) (i := 2) rfl rfl dX11_gone_24 ?_
          refine go_bipush (v := nI 72) (by decide) dX11_gone_25 ?_
          refine gn_gt (by omega) (by omega) (tgt := 110) dX11_gone_27 (by decide) (fun h27 => ?_) (fun h27 => by exfalso; omega)
          refine go_bipush (v := -2) (by decide) dX11_gone_110 ?_
          refine go_iret rfl ⟨Nat.zero_le _, Nat.zero_le _⟩ dX11_gone_112 ?_
          refine ⟨?_, c1⟩
          simp only [gonS, hw, i10, reduceIte]
          rw [hf, fs_e]
        · intro i hi ih mi c1 hci hf x3
          have hX0 := hX
          have hX := CX.to c1 hX
          have hP := hP.lk hX0 c1
          refine go_iload_n (q := 2) (i := 2) rfl rfl dX11_gone_24 ?_
          refine go_bipush (v := nI 72) (by decide) dX11_gone_25 ?_
          refine gn_gt (by omega) (by omega) (tgt := 110) dX11_gone_27 (by decide) (fun h27 => by exfalso; omega) (fun h27 => ?_)
          refine go_iconst (v := nI 0) (by decide) dX11_gone_30 ?_
          refine go_istore_n (q := 3) (i := 3) rfl dX11_gone_31 (nle rfl) (nle rfl) ?_
          have key2 : ∀ q, q ≤ P.hd → goneF P r (nI 1) i P.hd 0 = goneF P r (nI 1) i (P.hd - q) q → Go mX11_gone (fun o m' => o = some (.int (gonS P r (nI 1))) ∧ Ch (LkS pl) m m') 32 [some (.ref 0), some (.int (nI 1)), some (.int (nI i)), some (.int (nI q))] [] mi 0 0 := by
            refine loop_up P.hd ?_ ?_
            · intro hg
              refine go_iload_n (q := 3) (i := 3) rfl rfl dX11_gone_32 ?_
              refine go_aload_n (q := 0) (i := 0) rfl rfl dX11_gone_33 ?_
              refine go_getR lf11_86 rfl hX.o hX.rp dX11_gone_34 ?_
              refine go_getI lf11_271 rfl hX.wp.o dX11_gone_37 ?_
              rw [hP.hd]
              refine gn_ge (by omega) (by omega) (tgt := 81) dX11_gone_40 (by decide) (fun h40 => ?_) (fun h40 => by exfalso; omega)
              refine go_aload_n (q := 0) (i := 0) rfl rfl dX11_gone_81 ?_
              refine go_getR lf11_40 rfl hX.o hX.r4 dX11_gone_82 ?_
              refine go_aload_n (q := 0) (i := 0) rfl rfl dX11_gone_85 ?_
              refine go_getR lf11_86 rfl hX.o hX.rp dX11_gone_86 ?_
              refine go_aload_n (q := 0) (i := 0) rfl rfl dX11_gone_89 ?_
              refine go_getR lf11_51 rfl hX.o hX.r6 dX11_gone_90 ?_
              refine go_aload_n (q := 0) (i := 0) rfl rfl dX11_gone_93 ?_
              refine go_getR lf11_86 rfl hX.o hX.rp dX11_gone_94 ?_
              refine go_getI lf11_208 rfl hX.wp.o dX11_gone_97 ?_
              rw [hP.se]
              refine go_iconst (v := -1) (by decide) dX11_gone_100 ?_
              refine go_callV okmX8_passHour lmX11_238 ⟨nle rfl, nle rfl⟩ hX.w4.o ⟨by decide, rfl⟩ (ev_hour (M := M + i) (se := P.se) (lk := -1) hX.w4 hX.wp hX.w6 hP ok (by omega) (by omega) (by omega) (by omega) (hrN_ok ok hr i (by omega)) hci) npmX8_passHour rfl (nle rfl) ⟨nle rfl, nle rfl⟩ dX11_gone_101 ?_
              rintro _ m2 ⟨rfl, c2, h2⟩
              have c2 : Ch (LkS pl) mi m2 := c2.mn (fun x hx => by unfold LkS; omega)
              refine go_c0 ?_
              refine gn_inc (i := 2) (a := i) (q := 1) rfl dX11_gone_104 (nle rfl) rfl ?_
              refine go_goto (tgt := 24) dX11_gone_107 (by decide) ?_
              exact ih _ (c1.tr c2) h2 (hf.trans (fs_n hi (hg.trans gn_e))) _
            · intro q hq ihq hg
              refine go_iload_n (q := 3) (i := 3) rfl rfl dX11_gone_32 ?_
              refine go_aload_n (q := 0) (i := 0) rfl rfl dX11_gone_33 ?_
              refine go_getR lf11_86 rfl hX.o hX.rp dX11_gone_34 ?_
              refine go_getI lf11_271 rfl hX.wp.o dX11_gone_37 ?_
              rw [hP.hd]
              refine gn_ge (by omega) (by omega) (tgt := 81) dX11_gone_40 (by decide) (fun h40 => by exfalso; omega) (fun h40 => ?_)
              refine go_aload_n (q := 0) (i := 0) rfl rfl dX11_gone_43 ?_
              refine go_getR lf11_51 rfl hX.o hX.r6 dX11_gone_44 ?_
              refine go_iload_n (q := 3) (i := 3) rfl rfl dX11_gone_47 ?_
              refine go_callV okmX1_cellsOf lmX11_159 ⟨nle rfl, nle rfl⟩ hX.w6.o ⟨by decide, rfl⟩ (ev_cellsOf hX.w6) npmX1_cellsOf rfl (nle rfl) ⟨nle rfl, nle rfl⟩ dX11_gone_48 ?_
              rintro _ mz ⟨rfl, hz⟩
              subst mz
              rw [gw_ct ok hci (i1m _ (by omega))]
              have hct : ctY (fun c => (hrN P (-1) P.se i r) (40 + c)) (nI q) P.wd P.rw < 2 ^ 20 := Nat.lt_of_le_of_lt (Nat.le_trans (ctY_le _ _ _ _) (Nat.mul_le_mul hr5 hw8)) (show 5 * 8 < 2 ^ 20 by decide)
              refine go_c1 ?_
              refine gz_le (by omega) (tgt := 75) dX11_gone_51 (by decide) (fun h51 => ?_) (fun h51 => ?_)
              · skip
                refine gn_inc (i := 3) (a := q) (q := 1) rfl dX11_gone_75 (nle rfl) rfl ?_
                refine go_goto (tgt := 32) dX11_gone_78 (by decide) ?_
                exact ihq (hg.trans (gn_n hq (fun z => absurd z.1 (by omega))))
              · skip
                refine go_aload_n (q := 0) (i := 0) rfl rfl dX11_gone_54 ?_
                refine go_getR lf11_51 rfl hX.o hX.r6 dX11_gone_55 ?_
                refine go_iload_n (q := 3) (i := 3) rfl rfl dX11_gone_58 ?_
                refine go_callV okmX1_fogOf lmX11_163 ⟨nle rfl, nle rfl⟩ hX.w6.o ⟨by decide, rfl⟩ (ev_fogOf hX.w6) npmX1_fogOf rfl (nle rfl) ⟨nle rfl, nle rfl⟩ dX11_gone_59 ?_
                rintro _ mz ⟨rfl, hz⟩
                subst mz
                rw [gw_fg ok hci (i1m _ (by omega))]
                refine go_c1 ?_
                refine go_if_ne (tgt := 75) dX11_gone_62 (by decide) (fun h62 => ?_) (fun h62 => ?_)
                · skip
                  refine gn_inc (i := 3) (a := q) (q := 1) rfl dX11_gone_75 (nle rfl) rfl ?_
                  refine go_goto (tgt := 32) dX11_gone_78 (by decide) ?_
                  exact ihq (hg.trans (gn_n hq (fun z => h62 (z.2.trans nI_0))))
                · skip
                  refine go_iload_n (q := 1) (i := 1) rfl rfl dX11_gone_65 ?_
                  refine gz_ne (by omega) (tgt := 73) dX11_gone_66 (by decide) (fun h66 => ?_) (fun h66 => by exfalso; omega)
                  refine go_iload_n (q := 2) (i := 2) rfl rfl dX11_gone_73 ?_
                  refine go_iret rfl ⟨Nat.zero_le _, Nat.zero_le _⟩ dX11_gone_74 ?_
                  refine ⟨?_, c1⟩
                  simp only [gonS, hw, i10, reduceIte]
                  rw [hf, fs_s hi (hg.trans (gn_s hq (by omega) (h62.trans nI_0.symm)))]
                  rw [if_neg (by decide)]
          exact key2 0 (Nat.zero_le _) rfl
      refine go_iload_n (q := 1) (i := 1) rfl rfl dX11_gone_0 ?_
      refine gz_lt (by omega) (tgt := 9) dX11_gone_1 (by decide) (fun h1 => by exfalso; omega) (fun h1 => ?_)
      refine go_iload_n (q := 1) (i := 1) rfl rfl dX11_gone_4 ?_
      refine go_iconst (v := nI 1) (by decide) dX11_gone_5 ?_
      refine gn_le (by omega) (by omega) (tgt := 11) dX11_gone_6 (by decide) (fun h6 => ?_) (fun h6 => by exfalso; omega)
      refine go_aload_n (q := 0) (i := 0) rfl rfl dX11_gone_11 ?_
      refine go_getR lf11_51 rfl hX.o hX.r6 dX11_gone_12 ?_
      refine go_aload_n (q := 0) (i := 0) rfl rfl dX11_gone_15 ?_
      refine go_getR lf11_47 rfl hX.o hX.r5 dX11_gone_16 ?_
      refine go_callV okmX1_copyFrom lmX11_205 ⟨nle rfl, nle rfl⟩ hX.w6.o ⟨by decide, rfl⟩ (ev_copyFrom hX.w6 hX.w5 (by omega)) npmX1_copyFrom rfl (nle rfl) ⟨nle rfl, nle rfl⟩ dX11_gone_19 ?_
      rintro _ m1 ⟨rfl, cA, eA⟩
      have c1 : Ch (LkS pl) m m1 := cA.mn (fun x hx => by unfold LkS; omega)
      have hP := hP.lk hX c1
      have hX := CX.to c1 hX
      have hc1 : CR P (gw m1 21) r := by rw [eA]; exact hc
      refine go_c0 ?_
      refine go_iconst (v := nI 0) (by decide) dX11_gone_22 ?_
      refine go_istore_n (q := 2) (i := 2) rfl dX11_gone_23 (nle rfl) (nle rfl) ?_
      exact key 0 (Nat.zero_le _) m1 c1 hc1 rfl _
set_option maxRecDepth 100000 in
set_option maxHeartbeats 8000000 in
theorem ex_gone {m : Me} {P : Pl} {lv : Nat} (hx : Wf12 m.1 (gR m)) (hm : MdC m P lv) (ok : PlOk P) {w : Int32} : Ev mX12_gone [.ref 274, .int w] m (fun o m' => o = some (.int (gonS P (cp 105 (gI m 315) (gI m 316)) w)) ∧ Mo m m') := by
  refine ⟨plmX12_gone, nle rfl, ?_⟩
  have hw8 := ok.1
  have hr5 := ok.2.1
  have hlv := hm.lv
  have hh4 := ok.2.2.1
  have hu6 := ok.2.2.2.1
  rcases in_c w (N := 1) (by decide) with hw | ⟨k, hk, rfl, hw⟩
  · skip
    refine go_iload_n (q := 1) (i := 1) rfl rfl dX12_gone_0 ?_
    refine go_iconst (v := nI 0) (by decide) dX12_gone_1 ?_
    refine go_iconst (v := nI 1) (by decide) dX12_gone_2 ?_
    refine go_callS okmX12_in lmX12_361 ⟨nle rfl, nle rfl⟩ (ex_in) npmX12_in rfl (nle rfl) ⟨nle rfl, nle rfl⟩ dX12_gone_3 ?_
    rintro _ mz ⟨rfl, hz⟩
    subst mz
    rw [hw]
    refine go_c1 ?_
    refine gz_ne (by omega) (tgt := 11) dX12_gone_6 (by decide) (fun h6 => by exfalso; omega) (fun h6 => ?_)
    refine go_iconst (v := -1) (by decide) dX12_gone_9 ?_
    refine go_iret rfl ⟨Nat.zero_le _, Nat.zero_le _⟩ dX12_gone_10 ?_
    refine ⟨?_, Mo.rf⟩
    simp only [gonS, hw, i10, reduceIte]
  · skip
    rcases (show k = 0 ∨ k = 1 by omega) with rfl | rfl
    · skip
      have key : ∀ i, i ≤ 73 → ∀ mi : Me, Mo m mi → gI mi 316 = hrN P (-1) P.se i (cp 105 (gI m 315) (gI m 316)) → gI mi 274 60 = P.se → gI mi 274 61 = -1 → fsN (fun t => goneF P (cp 105 (gI m 315) (gI m 316)) (nI 0) t P.hd 0) 73 0 = fsN (fun t => goneF P (cp 105 (gI m 315) (gI m 316)) (nI 0) t P.hd 0) (73 - i) i → ∀ x3 : Option Value, Go mX12_gone (fun o m' => o = some (.int (gonS P (cp 105 (gI m 315) (gI m 316)) (nI 0))) ∧ Mo m m') 17 [some (.ref 274), some (.int (nI 0)), some (.int (nI i)), x3] [] mi 0 0 := by
        refine loop_up 73 ?_ ?_
        · intro mi c1 ei si li hf x3
          have hx := c1.wf hx
          have hm := c1.md hm
          refine go_iload_n (q := 2) (i := 2) rfl rfl dX12_gone_17 ?_
          refine go_bipush (v := nI 72) (by decide) dX12_gone_18 ?_
          refine gn_gt (by omega) (by omega) (tgt := 80) dX12_gone_20 (by decide) (fun h20 => ?_) (fun h20 => by exfalso; omega)
          refine go_bipush (v := -2) (by decide) dX12_gone_80 ?_
          refine go_iret rfl ⟨Nat.zero_le _, Nat.zero_le _⟩ dX12_gone_82 ?_
          refine ⟨?_, c1⟩
          simp only [gonS, hw, i10, reduceIte]
          rw [hf, fs_e]
        · intro i hi ih mi c1 ei si li hf x3
          have hx := c1.wf hx
          have hm := c1.md hm
          refine go_iload_n (q := 2) (i := 2) rfl rfl dX12_gone_17 ?_
          refine go_bipush (v := nI 72) (by decide) dX12_gone_18 ?_
          refine gn_gt (by omega) (by omega) (tgt := 80) dX12_gone_20 (by decide) (fun h20 => by exfalso; omega) (fun h20 => ?_)
          refine go_iconst (v := nI 0) (by decide) dX12_gone_23 ?_
          refine go_istore_n (q := 3) (i := 3) rfl dX12_gone_24 (nle rfl) (nle rfl) ?_
          have key2 : ∀ q, q ≤ P.hd → goneF P (cp 105 (gI m 315) (gI m 316)) (nI 0) i P.hd 0 = goneF P (cp 105 (gI m 315) (gI m 316)) (nI 0) i (P.hd - q) q → Go mX12_gone (fun o m' => o = some (.int (gonS P (cp 105 (gI m 315) (gI m 316)) (nI 0))) ∧ Mo m m') 25 [some (.ref 274), some (.int (nI 0)), some (.int (nI i)), some (.int (nI q))] [] mi 0 0 := by
            refine loop_up P.hd ?_ ?_
            · intro hg
              refine go_iload_n (q := 3) (i := 3) rfl rfl dX12_gone_25 ?_
              refine go_aload_n (q := 0) (i := 0) rfl rfl dX12_gone_26 ?_
              refine go_getR lf12_58 rfl hx.o hx.r27 dX12_gone_27 ?_
              refine go_aload_n (q := 0) (i := 0) rfl rfl dX12_gone_30 ?_
              refine go_getI lf12_260 rfl hx.o dX12_gone_31 ?_
              rw [hm.li]
              refine go_iald (j := lv) hx.i27 (by omega) (by first | decide | omega) rfl dX12_gone_34 ?_
              rw [hm.hd]
              refine gn_ge (by omega) (by omega) (tgt := 70) dX12_gone_35 (by decide) (fun h35 => ?_) (fun h35 => by exfalso; omega)
              refine go_aload_n (q := 0) (i := 0) rfl rfl dX12_gone_70 ?_
              refine go_callV okmX12_hourGoes lmX12_410 ⟨nle rfl, nle rfl⟩ hx.o ⟨by decide, rfl⟩ (ex_hourGoes hx hm ok) npmX12_hourGoes rfl (nle rfl) ⟨nle rfl, nle rfl⟩ dX12_gone_71 ?_
              rintro _ m2 ⟨rfl, cB, e2⟩
              rw [ei, si, li] at e2
              refine go_c0 ?_
              refine gn_inc (i := 2) (a := i) (q := 1) rfl dX12_gone_74 (nle rfl) rfl ?_
              refine go_goto (tgt := 17) dX12_gone_77 (by decide) ?_
              exact ih _ (c1.tr cB.1) e2 (cB.2.1.trans si) (cB.2.2.trans li) (hf.trans (fs_n hi (hg.trans gn_e))) _
            · intro q hq ihq hg
              refine go_iload_n (q := 3) (i := 3) rfl rfl dX12_gone_25 ?_
              refine go_aload_n (q := 0) (i := 0) rfl rfl dX12_gone_26 ?_
              refine go_getR lf12_58 rfl hx.o hx.r27 dX12_gone_27 ?_
              refine go_aload_n (q := 0) (i := 0) rfl rfl dX12_gone_30 ?_
              refine go_getI lf12_260 rfl hx.o dX12_gone_31 ?_
              rw [hm.li]
              refine go_iald (j := lv) hx.i27 (by omega) (by first | decide | omega) rfl dX12_gone_34 ?_
              rw [hm.hd]
              refine gn_ge (by omega) (by omega) (tgt := 70) dX12_gone_35 (by decide) (fun h35 => by exfalso; omega) (fun h35 => ?_)
              refine go_aload_n (q := 0) (i := 0) rfl rfl dX12_gone_38 ?_
              refine go_iload_n (q := 3) (i := 3) rfl rfl dX12_gone_39 ?_
              refine go_callV okmX12_cellsOf lmX12_420 ⟨nle rfl, nle rfl⟩ hx.o ⟨by decide, rfl⟩ (ex_cellsOf hx hm ok) npmX12_cellsOf rfl (nle rfl) ⟨nle rfl, nle rfl⟩ dX12_gone_40 ?_
              rintro _ mz ⟨rfl, hz⟩
              subst mz
              rw [ei]
              have hct : ctY (fun c => (hrN P (-1) P.se i (cp 105 (gI m 315) (gI m 316))) (40 + c)) (nI q) P.wd P.rw < 2 ^ 20 := Nat.lt_of_le_of_lt (Nat.le_trans (ctY_le _ _ _ _) (Nat.mul_le_mul hr5 hw8)) (show 5 * 8 < 2 ^ 20 by decide)
              refine go_c1 ?_
              refine gz_le (by omega) (tgt := 64) dX12_gone_43 (by decide) (fun h43 => ?_) (fun h43 => ?_)
              · skip
                refine gn_inc (i := 3) (a := q) (q := 1) rfl dX12_gone_64 (nle rfl) rfl ?_
                refine go_goto (tgt := 25) dX12_gone_67 (by decide) ?_
                exact ihq (hg.trans (gn_n hq (fun z => absurd z.1 (by omega))))
              · skip
                refine go_aload_n (q := 0) (i := 0) rfl rfl dX12_gone_46 ?_
                refine go_iload_n (q := 3) (i := 3) rfl rfl dX12_gone_47 ?_
                refine go_callV okmX12_fogOf lmX12_387 ⟨nle rfl, nle rfl⟩ hx.o ⟨by decide, rfl⟩ (ex_fogOf hx hm ok) npmX12_fogOf rfl (nle rfl) ⟨nle rfl, nle rfl⟩ dX12_gone_48 ?_
                rintro _ mz ⟨rfl, hz⟩
                subst mz
                rw [ei]
                refine go_c1 ?_
                refine go_if_ne (tgt := 64) dX12_gone_51 (by decide) (fun h51 => ?_) (fun h51 => ?_)
                · skip
                  refine gn_inc (i := 3) (a := q) (q := 1) rfl dX12_gone_64 (nle rfl) rfl ?_
                  refine go_goto (tgt := 25) dX12_gone_67 (by decide) ?_
                  exact ihq (hg.trans (gn_n hq (fun z => h51 (z.2.trans nI_0))))
                · skip
                  refine go_iload_n (q := 1) (i := 1) rfl rfl dX12_gone_54 ?_
                  refine gz_ne (by omega) (tgt := 62) dX12_gone_55 (by decide) (fun h55 => by exfalso; omega) (fun h55 => ?_)
                  refine go_iload_n (q := 3) (i := 3) rfl rfl dX12_gone_58 ?_
                  refine go_goto (tgt := 63) dX12_gone_59 (by decide) ?_
                  refine go_iret rfl ⟨Nat.zero_le _, Nat.zero_le _⟩ dX12_gone_63 ?_
                  refine ⟨?_, c1⟩
                  simp only [gonS, hw, i10, reduceIte]
                  rw [hf, fs_s hi (hg.trans (gn_s hq (by omega) (h51.trans nI_0.symm)))]
                  rw [if_pos rfl]
          exact key2 0 (Nat.zero_le _) rfl
      refine go_iload_n (q := 1) (i := 1) rfl rfl dX12_gone_0 ?_
      refine go_iconst (v := nI 0) (by decide) dX12_gone_1 ?_
      refine go_iconst (v := nI 1) (by decide) dX12_gone_2 ?_
      refine go_callS okmX12_in lmX12_361 ⟨nle rfl, nle rfl⟩ (ex_in) npmX12_in rfl (nle rfl) ⟨nle rfl, nle rfl⟩ dX12_gone_3 ?_
      rintro _ mz ⟨rfl, hz⟩
      subst mz
      rw [hw]
      refine go_c1 ?_
      refine gz_ne (by omega) (tgt := 11) dX12_gone_6 (by decide) (fun h6 => ?_) (fun h6 => by exfalso; omega)
      refine go_aload_n (q := 0) (i := 0) rfl rfl dX12_gone_11 ?_
      refine go_callV okmX12_copies lmX12_413 ⟨nle rfl, nle rfl⟩ hx.o ⟨by decide, rfl⟩ (ex_copies hx hm) npmX12_copies rfl (nle rfl) ⟨nle rfl, nle rfl⟩ dX12_gone_12 ?_
      rintro _ m1 ⟨rfl, c1, e1, s1, l1, -⟩
      have hx := c1.wf hx
      have hm := c1.md hm
      refine go_c0 ?_
      refine go_iconst (v := nI 0) (by decide) dX12_gone_15 ?_
      refine go_istore_n (q := 2) (i := 2) rfl dX12_gone_16 (nle rfl) (nle rfl) ?_
      exact key 0 (Nat.zero_le _) m1 c1 e1 s1 l1 rfl _
    · skip
      have key : ∀ i, i ≤ 73 → ∀ mi : Me, Mo m mi → gI mi 316 = hrN P (-1) P.se i (cp 105 (gI m 315) (gI m 316)) → gI mi 274 60 = P.se → gI mi 274 61 = -1 → fsN (fun t => goneF P (cp 105 (gI m 315) (gI m 316)) (nI 1) t P.hd 0) 73 0 = fsN (fun t => goneF P (cp 105 (gI m 315) (gI m 316)) (nI 1) t P.hd 0) (73 - i) i → ∀ x3 : Option Value, Go mX12_gone (fun o m' => o = some (.int (gonS P (cp 105 (gI m 315) (gI m 316)) (nI 1))) ∧ Mo m m') 17 [some (.ref 274), some (.int (nI 1)), some (.int (nI i)), x3] [] mi 0 0 := by
        refine loop_up 73 ?_ ?_
        · intro mi c1 ei si li hf x3
          have hx := c1.wf hx
          have hm := c1.md hm
          refine go_iload_n (q := 2) (i := 2) rfl rfl dX12_gone_17 ?_
          refine go_bipush (v := nI 72) (by decide) dX12_gone_18 ?_
          refine gn_gt (by omega) (by omega) (tgt := 80) dX12_gone_20 (by decide) (fun h20 => ?_) (fun h20 => by exfalso; omega)
          refine go_bipush (v := -2) (by decide) dX12_gone_80 ?_
          refine go_iret rfl ⟨Nat.zero_le _, Nat.zero_le _⟩ dX12_gone_82 ?_
          refine ⟨?_, c1⟩
          simp only [gonS, hw, i10, reduceIte]
          rw [hf, fs_e]
        · intro i hi ih mi c1 ei si li hf x3
          have hx := c1.wf hx
          have hm := c1.md hm
          refine go_iload_n (q := 2) (i := 2) rfl rfl dX12_gone_17 ?_
          refine go_bipush (v := nI 72) (by decide) dX12_gone_18 ?_
          refine gn_gt (by omega) (by omega) (tgt := 80) dX12_gone_20 (by decide) (fun h20 => by exfalso; omega) (fun h20 => ?_)
          refine go_iconst (v := nI 0) (by decide) dX12_gone_23 ?_
          refine go_istore_n (q := 3) (i := 3) rfl dX12_gone_24 (nle rfl) (nle rfl) ?_
          have key2 : ∀ q, q ≤ P.hd → goneF P (cp 105 (gI m 315) (gI m 316)) (nI 1) i P.hd 0 = goneF P (cp 105 (gI m 315) (gI m 316)) (nI 1) i (P.hd - q) q → Go mX12_gone (fun o m' => o = some (.int (gonS P (cp 105 (gI m 315) (gI m 316)) (nI 1))) ∧ Mo m m') 25 [some (.ref 274), some (.int (nI 1)), some (.int (nI i)), some (.int (nI q))] [] mi 0 0 := by
            refine loop_up P.hd ?_ ?_
            · intro hg
              refine go_iload_n (q := 3) (i := 3) rfl rfl dX12_gone_25 ?_
              refine go_aload_n (q := 0) (i := 0) rfl rfl dX12_gone_26 ?_
              refine go_getR lf12_58 rfl hx.o hx.r27 dX12_gone_27 ?_
              refine go_aload_n (q := 0) (i := 0) rfl rfl dX12_gone_30 ?_
              refine go_getI lf12_260 rfl hx.o dX12_gone_31 ?_
              rw [hm.li]
              refine go_iald (j := lv) hx.i27 (by omega) (by first | decide | omega) rfl dX12_gone_34 ?_
              rw [hm.hd]
              refine gn_ge (by omega) (by omega) (tgt := 70) dX12_gone_35 (by decide) (fun h35 => ?_) (fun h35 => by exfalso; omega)
              refine go_aload_n (q := 0) (i := 0) rfl rfl dX12_gone_70 ?_
              refine go_callV okmX12_hourGoes lmX12_410 ⟨nle rfl, nle rfl⟩ hx.o ⟨by decide, rfl⟩ (ex_hourGoes hx hm ok) npmX12_hourGoes rfl (nle rfl) ⟨nle rfl, nle rfl⟩ dX12_gone_71 ?_
              rintro _ m2 ⟨rfl, cB, e2⟩
              rw [ei, si, li] at e2
              refine go_c0 ?_
              refine gn_inc (i := 2) (a := i) (q := 1) rfl dX12_gone_74 (nle rfl) rfl ?_
              refine go_goto (tgt := 17) dX12_gone_77 (by decide) ?_
              exact ih _ (c1.tr cB.1) e2 (cB.2.1.trans si) (cB.2.2.trans li) (hf.trans (fs_n hi (hg.trans gn_e))) _
            · intro q hq ihq hg
              refine go_iload_n (q := 3) (i := 3) rfl rfl dX12_gone_25 ?_
              refine go_aload_n (q := 0) (i := 0) rfl rfl dX12_gone_26 ?_
              refine go_getR lf12_58 rfl hx.o hx.r27 dX12_gone_27 ?_
              refine go_aload_n (q := 0) (i := 0) rfl rfl dX12_gone_30 ?_
              refine go_getI lf12_260 rfl hx.o dX12_gone_31 ?_
              rw [hm.li]
              refine go_iald (j := lv) hx.i27 (by omega) (by first | decide | omega) rfl dX12_gone_34 ?_
              rw [hm.hd]
              refine gn_ge (by omega) (by omega) (tgt := 70) dX12_gone_35 (by decide) (fun h35 => by exfalso; omega) (fun h35 => ?_)
              refine go_aload_n (q := 0) (i := 0) rfl rfl dX12_gone_38 ?_
              refine go_iload_n (q := 3) (i := 3) rfl rfl dX12_gone_39 ?_
              refine go_callV okmX12_cellsOf lmX12_420 ⟨nle rfl, nle rfl⟩ hx.o ⟨by decide, rfl⟩ (ex_cellsOf hx hm ok) npmX12_cellsOf rfl (nle rfl) ⟨nle rfl, nle rfl⟩ dX12_gone_40 ?_
              rintro _ mz ⟨rfl, hz⟩
              subst mz
              rw [ei]
              have hct : ctY (fun c => (hrN P (-1) P.se i (cp 105 (gI m 315) (gI m 316))) (40 + c)) (nI q) P.wd P.rw < 2 ^ 20 := Nat.lt_of_le_of_lt (Nat.le_trans (ctY_le _ _ _ _) (Nat.mul_le_mul hr5 hw8)) (show 5 * 8 < 2 ^ 20 by decide)
              refine go_c1 ?_
              refine gz_le (by omega) (tgt := 64) dX12_gone_43 (by decide) (fun h43 => ?_) (fun h43 => ?_)
              · skip
                refine gn_inc (i := 3) (a := q) (q := 1) rfl dX12_gone_64 (nle rfl) rfl ?_
                refine go_goto (tgt := 25) dX12_gone_67 (by decide) ?_
                exact ihq (hg.trans (gn_n hq (fun z => absurd z.1 (by omega))))
              · skip
                refine go_aload_n (q := 0) (i := 0) rfl rfl dX12_gone_46 ?_
                refine go_iload_n (q := 3) (i := 3) rfl rfl dX12_gone_47 ?_
                refine go_callV okmX12_fogOf lmX12_387 ⟨nle rfl, nle rfl⟩ hx.o ⟨by decide, rfl⟩ (ex_fogOf hx hm ok) npmX12_fogOf rfl (nle rfl) ⟨nle rfl, nle rfl⟩ dX12_gone_48 ?_
                rintro _ mz ⟨rfl, hz⟩
                subst mz
                rw [ei]
                refine go_c1 ?_
                refine go_if_ne (tgt := 64) dX12_gone_51 (by decide) (fun h51 => ?_) (fun h51 => ?_)
                · skip
                  refine gn_inc (i := 3) (a := q) (q := 1) rfl dX12_gone_64 (nle rfl) rfl ?_
                  refine go_goto (tgt := 25) dX12_gone_67 (by decide) ?_
                  exact ihq (hg.trans (gn_n hq (fun z => h51 (z.2.trans nI_0))))
                · skip
                  refine go_iload_n (q := 1) (i := 1) rfl rfl dX12_gone_54 ?_
                  refine gz_ne (by omega) (tgt := 62) dX12_gone_55 (by decide) (fun h55 => ?_) (fun h55 => by exfalso; omega)
                  refine go_iload_n (q := 2) (i := 2) rfl rfl dX12_gone_62 ?_
                  refine go_iret rfl ⟨Nat.zero_le _, Nat.zero_le _⟩ dX12_gone_63 ?_
                  refine ⟨?_, c1⟩
                  simp only [gonS, hw, i10, reduceIte]
                  rw [hf, fs_s hi (hg.trans (gn_s hq (by omega) (h51.trans nI_0.symm)))]
                  rw [if_neg (by decide)]
          exact key2 0 (Nat.zero_le _) rfl
      refine go_iload_n (q := 1) (i := 1) rfl rfl dX12_gone_0 ?_
      refine go_iconst (v := nI 0) (by decide) dX12_gone_1 ?_
      refine go_iconst (v := nI 1) (by decide) dX12_gone_2 ?_
      refine go_callS okmX12_in lmX12_361 ⟨nle rfl, nle rfl⟩ (ex_in) npmX12_in rfl (nle rfl) ⟨nle rfl, nle rfl⟩ dX12_gone_3 ?_
      rintro _ mz ⟨rfl, hz⟩
      subst mz
      rw [hw]
      refine go_c1 ?_
      refine gz_ne (by omega) (tgt := 11) dX12_gone_6 (by decide) (fun h6 => ?_) (fun h6 => by exfalso; omega)
      refine go_aload_n (q := 0) (i := 0) rfl rfl dX12_gone_11 ?_
      refine go_callV okmX12_copies lmX12_413 ⟨nle rfl, nle rfl⟩ hx.o ⟨by decide, rfl⟩ (ex_copies hx hm) npmX12_copies rfl (nle rfl) ⟨nle rfl, nle rfl⟩ dX12_gone_12 ?_
      rintro _ m1 ⟨rfl, c1, e1, s1, l1, -⟩
      have hx := c1.wf hx
      have hm := c1.md hm
      refine go_c0 ?_
      refine go_iconst (v := nI 0) (by decide) dX12_gone_15 ?_
      refine go_istore_n (q := 2) (i := 2) rfl dX12_gone_16 (nle rfl) (nle rfl) ?_
      exact key 0 (Nat.zero_le _) m1 c1 e1 s1 l1 rfl _
