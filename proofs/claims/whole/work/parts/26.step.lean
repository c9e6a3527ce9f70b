/-- how much of a cell goes (law 1) or thins (law 2) -/
def tS (P : Pl) (e F W : Nat → Int32) (k c : Nat) : Int32 := wiS (P.lw k (e5 e (F c) (nI (c % 8)) (nI (c / 8)) (W c))) (F c)
/-- where it goes -/
def nxS (w h b : Int32) (c : Nat) : Int32 := caS w h (nI (c % 8) + stA b) (nI (c / 8) + stD b)
/-- the fog moved, of the first i cells -/
def mvS (F T N : Nat → Int32) : Nat → Nat → Int32
  | 0 => fun _ => nI 0
  | i + 1 => if F i ≤ 0 then mvS F T N i else if N i < 0 then upd (mvS F T N i) i (mvS F T N i i + (F i - T i)) else if nI 40 ≤ N i then upd (mvS F T N i) i (mvS F T N i i + (F i - T i)) else
    upd (upd (mvS F T N i) i (mvS F T N i i + (F i - T i))) (N i).toNatClampNeg (upd (mvS F T N i) i (mvS F T N i i + (F i - T i)) (N i).toNatClampNeg + T i)
theorem upd_lt {f f' : Nat → Int32} {k : Nat} {x x' : Int32} {n : Nat} (h : ∀ j, j < n → f j = f' j) (hx : x = x') : ∀ j, j < n → upd f k x j = upd f' k x' j := by
  intro j hj
  unfold upd
  by_cases e : j = k
  · rw [if_pos e, if_pos e, hx]
  · rw [if_neg e, if_neg e, h j hj]
set_option maxRecDepth 100000 in
set_option maxHeartbeats 4000000 in
theorem ev_step {m : Me} {pl g : Nat} {P : Pl} {e : Nat → Int32} {b : Int32} (hk : Wf8 m.1 (gR m) 13) (hp : Wf7 m.1 (gR m) pl) (hg : Wf1 m.1 (gR m) g) (hL : LwC m pl P) (ok : PlOk P) (hne : g + 5 < pl ∨ pl + 14 < g) (hs1 : 14 < g) (hs2 : 14 < pl) (hV : hv (gI m (pl + 12)) e) : Ev mX8_step [.ref 13, .ref pl, .ref g, .int b] m (fun r m' => r = none ∧ Ch (fun x => x = 14 ∨ x = pl + 12 ∨ x = pl + 13 ∨ x = g + 1) m m' ∧ (∀ k, k < 40 → gI m' (g + 1) k = mvS (gI m (g + 1)) (tS P e (gI m (g + 1)) (gI m (g + 2)) 1) (nxS (gI m pl 0) (gI m pl 1) b) 40 k) ∧ hv (gI m' (pl + 12)) e) := by
  refine ⟨plmX8_step, nle rfl, ?_⟩
  have key : ∀ i, i ≤ 40 → ∀ (mi : Me) (x5 x6 x7 : Option Value), Ch (fun x => x = 14 ∨ x = pl + 12 ∨ x = pl + 13) m mi → (∀ k, k < 40 → gI mi 14 k = mvS (gI m (g + 1)) (tS P e (gI m (g + 1)) (gI m (g + 2)) 1) (nxS (gI m pl 0) (gI m pl 1) b) i k) → hv (gI mi (pl + 12)) e → Go mX8_step (fun r m' => r = none ∧ Ch (fun x => x = 14 ∨ x = pl + 12 ∨ x = pl + 13 ∨ x = g + 1) m m' ∧ (∀ k, k < 40 → gI m' (g + 1) k = mvS (gI m (g + 1)) (tS P e (gI m (g + 1)) (gI m (g + 2)) 1) (nxS (gI m pl 0) (gI m pl 1) b) 40 k) ∧ hv (gI m' (pl + 12)) e) 11 [some (.ref 13), some (.ref pl), some (.ref g), some (.int b), some (.int (nI i)), x5, x6, x7] [] (mi) 0 0 := by
    refine loop_up 40 ?_ ?_
    · intro mi x5 x6 x7 hc hM hVi
      have hk := Ch.to (F := fun n R => Wf8 n R 13) hc hk
      have hp := Ch.to (F := fun n R => Wf7 n R pl) hc hp
      have hg := Ch.to (F := fun n R => Wf1 n R g) hc hg
      have eF : gI mi (g + 1) = gI m (g + 1) := hc.at (by omega)
      have eW : gI mi (g + 2) = gI m (g + 2) := hc.at (by omega)
      have hLi : LwC mi pl P := hL.keep (hc.at (by omega)) (hc.at (by omega))
      refine go_iload (i := 4) rfl dX8_step_11 ?_
      refine go_bipush (v := nI 40) (by decide) dX8_step_13 ?_
      refine gn_ge (by omega) (by omega) (tgt := 114) dX8_step_15 (by decide) (fun h15 => ?_) (fun h15 => by exfalso; omega)
      refine go_aload_n (q := 0) (i := 0) rfl rfl dX8_step_114 ?_
      refine go_getR lf8_9 rfl hk.o hk.r0 dX8_step_115 ?_
      refine go_aload_n (q := 2) (i := 2) rfl rfl dX8_step_118 ?_
      refine go_getR lf8_76 rfl hg.o hg.r1 dX8_step_119 ?_
      refine go_callS okmX11_copy lmX8_92 ⟨nle rfl, nle rfl⟩ (ev_copy (by decide) hk.i0 hg.i1 (by omega)) npmX11_copy rfl (nle rfl) ⟨nle rfl, nle rfl⟩ dX8_step_122 ?_
      rintro _ m9 ⟨rfl, h9⟩
      refine go_c0 ?_
      refine go_vret rfl ⟨Nat.zero_le _, Nat.zero_le _⟩ dX8_step_125 ?_
      refine ⟨rfl, ?_, fun k hk2 => ?_, ?_⟩
      · rw [h9]
        exact (hc.mn (fun x hx => by omega)).tr (Ch.I (by omega))
      · rw [h9, gI_s, cp_in hk2]
        exact hM k hk2
      · rw [h9, gI_n (by omega)]; exact hVi
    · intro i hi ih mi x5 x6 x7 hc hM hVi
      have hk := Ch.to (F := fun n R => Wf8 n R 13) hc hk
      have hp := Ch.to (F := fun n R => Wf7 n R pl) hc hp
      have hg := Ch.to (F := fun n R => Wf1 n R g) hc hg
      have eF : gI mi (g + 1) = gI m (g + 1) := hc.at (by omega)
      have eW : gI mi (g + 2) = gI m (g + 2) := hc.at (by omega)
      have hLi : LwC mi pl P := hL.keep (hc.at (by omega)) (hc.at (by omega))
      refine go_iload (i := 4) rfl dX8_step_11 ?_
      refine go_bipush (v := nI 40) (by decide) dX8_step_13 ?_
      refine gn_ge (by omega) (by omega) (tgt := 114) dX8_step_15 (by decide) (fun h15 => by exfalso; omega) (fun h15 => ?_)
      refine go_aload_n (q := 2) (i := 2) rfl rfl dX8_step_18 ?_
      refine go_getR lf8_76 rfl hg.o hg.r1 dX8_step_19 ?_
      refine go_iload (i := 4) rfl dX8_step_22 ?_
      refine go_iald (j := i) hg.i1 (by omega) (by first | decide | omega) rfl dX8_step_24 ?_
      rw [eF]
      refine go_istore (i := 5) dX8_step_25 (nle rfl) (nle rfl) ?_
      refine go_iload (i := 5) rfl dX8_step_27 ?_
      refine go_if_le (tgt := 108) dX8_step_29 (by decide) (fun h29 => ?_) (fun h29 => ?_)
      · skip
        refine gn_inc (i := 4) (a := i) (q := 1) rfl dX8_step_108 (nle rfl) rfl ?_
        refine go_goto (tgt := 11) dX8_step_111 (by decide) ?_
        refine ih mi _ _ _ hc (fun k hk2 => ?_) hVi
        rw [show mvS (gI m (g + 1)) (tS P e (gI m (g + 1)) (gI m (g + 2)) 1) (nxS (gI m pl 0) (gI m pl 1) b) (i + 1) = mvS (gI m (g + 1)) (tS P e (gI m (g + 1)) (gI m (g + 2)) 1) (nxS (gI m pl 0) (gI m pl 1) b) i from if_pos h29]
        exact hM k hk2
      · skip
        refine go_aload_n (q := 0) (i := 0) rfl rfl dX8_step_32 ?_
        refine go_aload_n (q := 1) (i := 1) rfl rfl dX8_step_33 ?_
        refine go_aload_n (q := 2) (i := 2) rfl rfl dX8_step_34 ?_
        refine go_iload (i := 4) rfl dX8_step_35 ?_
        refine go_iconst (v := nI 1) (by decide) dX8_step_37 ?_
        refine go_callV okmX8_ofCell lmX8_79 ⟨nle rfl, nle rfl⟩ hk.o ⟨by decide, rfl⟩ (ev_ofCell hk hp hg hLi ok hne hi (by decide) hVi) npmX8_ofCell rfl (nle rfl) ⟨nle rfl, nle rfl⟩ dX8_step_38 ?_
        rintro _ m1 ⟨rfl, hc1, hV1⟩
        rw [show wiS (P.lw 1 (e5 e (gI mi (g + 1) i) (nI (i % 8)) (nI (i / 8)) (gI mi (g + 2) i))) (gI mi (g + 1) i) = (tS P e (gI m (g + 1)) (gI m (g + 2)) 1) i by rw [eF, eW]; rfl]
        have hk := Ch.to (F := fun n R => Wf8 n R 13) hc1 hk
        have hp := Ch.to (F := fun n R => Wf7 n R pl) hc1 hp
        have eM1 : gI m1 14 = gI mi 14 := hc1.at (by omega)
        have eP : gI m1 pl = gI m pl := (hc1.at (by omega)).trans (hc.at (by omega))
        refine go_c1 ?_
        refine go_istore (i := 6) dX8_step_41 (nle rfl) (nle rfl) ?_
        refine go_aload_n (q := 1) (i := 1) rfl rfl dX8_step_43 ?_
        refine go_iload (i := 4) rfl dX8_step_44 ?_
        refine go_bipush (v := nI 8) (by decide) dX8_step_46 ?_
        refine gn_rem (by omega) (by omega) (by omega) dX8_step_48 ?_
        refine go_iload_n (q := 3) (i := 3) rfl rfl dX8_step_49 ?_
        refine go_callS okmX11_stepAcross lmX8_83 ⟨nle rfl, nle rfl⟩ (ev_stA) npmX11_stepAcross rfl (nle rfl) ⟨nle rfl, nle rfl⟩ dX8_step_50 ?_
        rintro _ mz ⟨rfl, hz⟩
        subst mz
        refine go_c1 ?_
        refine go_iadd dX8_step_53 ?_
        refine go_iload (i := 4) rfl dX8_step_54 ?_
        refine go_bipush (v := nI 8) (by decide) dX8_step_56 ?_
        refine gn_div (by omega) (by omega) (by omega) dX8_step_58 ?_
        refine go_iload_n (q := 3) (i := 3) rfl rfl dX8_step_59 ?_
        refine go_callS okmX11_stepDown lmX8_86 ⟨nle rfl, nle rfl⟩ (ev_stD) npmX11_stepDown rfl (nle rfl) ⟨nle rfl, nle rfl⟩ dX8_step_60 ?_
        rintro _ mz ⟨rfl, hz⟩
        subst mz
        refine go_c1 ?_
        refine go_iadd dX8_step_63 ?_
        refine go_callV okmX7_cellAt lmX8_89 ⟨nle rfl, nle rfl⟩ hp.o ⟨by decide, rfl⟩ (ev_cellAt hp) npmX7_cellAt rfl (nle rfl) ⟨nle rfl, nle rfl⟩ dX8_step_64 ?_
        rintro _ mz ⟨rfl, hz⟩
        subst mz
        rw [eP, show caS (gI m pl 0) (gI m pl 1) (nI (i % 8) + stA b) (nI (i / 8) + stD b) = (nxS (gI m pl 0) (gI m pl 1) b) i from rfl]
        refine go_c1 ?_
        refine go_istore (i := 7) dX8_step_67 (nle rfl) (nle rfl) ?_
        refine go_aload_n (q := 0) (i := 0) rfl rfl dX8_step_69 ?_
        refine go_getR lf8_9 rfl hk.o hk.r0 dX8_step_70 ?_
        refine go_iload (i := 4) rfl dX8_step_73 ?_
        refine go_dup2 rfl rfl dX8_step_75 ?_
        refine go_iald (j := i) hk.i0 (by omega) (by first | decide | omega) rfl dX8_step_76 ?_
        refine go_iload (i := 5) rfl dX8_step_77 ?_
        refine go_iload (i := 6) rfl dX8_step_79 ?_
        refine go_isub dX8_step_81 ?_
        refine go_iadd dX8_step_82 ?_
        refine go_iast (j := i) hk.i0 (by omega) (by first | decide | omega) rfl dX8_step_83 ?_
        refine go_iload (i := 7) rfl dX8_step_84 ?_
        refine go_if_lt (tgt := 108) dX8_step_86 (by decide) (fun h86 => ?_) (fun h86 => ?_)
        · skip
          refine gn_inc (i := 4) (a := i) (q := 1) rfl dX8_step_108 (nle rfl) rfl ?_
          refine go_goto (tgt := 11) dX8_step_111 (by decide) ?_
          refine ih _ _ _ _ ((hc.tr (hc1.mn (fun x hx => Or.inr hx))).tr (Ch.I (Or.inl rfl))) (fun k hk2 => ?_) ?_
          · rw [gI_s, show mvS (gI m (g + 1)) (tS P e (gI m (g + 1)) (gI m (g + 2)) 1) (nxS (gI m pl 0) (gI m pl 1) b) (i + 1) = _ from (if_neg h29).trans (if_pos h86)]
            exact upd_lt (fun j hj => by rw [eM1]; exact hM j hj) (by rw [eM1, hM i hi]) k hk2
          · rw [gI_n (by omega)]; exact hV1
        · skip
          refine go_iload (i := 7) rfl dX8_step_89 ?_
          refine go_bipush (v := nI 40) (by decide) dX8_step_91 ?_
          refine go_icmp_ge (tgt := 108) dX8_step_93 (by decide) (fun h93 => ?_) (fun h93 => ?_)
          · skip
            refine gn_inc (i := 4) (a := i) (q := 1) rfl dX8_step_108 (nle rfl) rfl ?_
            refine go_goto (tgt := 11) dX8_step_111 (by decide) ?_
            refine ih _ _ _ _ ((hc.tr (hc1.mn (fun x hx => Or.inr hx))).tr (Ch.I (Or.inl rfl))) (fun k hk2 => ?_) ?_
            · rw [gI_s, show mvS (gI m (g + 1)) (tS P e (gI m (g + 1)) (gI m (g + 2)) 1) (nxS (gI m pl 0) (gI m pl 1) b) (i + 1) = _ from (if_neg h29).trans ((if_neg h86).trans (if_pos h93))]
              exact upd_lt (fun j hj => by rw [eM1]; exact hM j hj) (by rw [eM1, hM i hi]) k hk2
            · rw [gI_n (by omega)]; exact hV1
          · skip
            obtain ⟨j, hj, ej⟩ := nat_of (n := 40) rfl (by decide) h86 h93
            rw [ej]
            refine go_aload_n (q := 0) (i := 0) rfl rfl dX8_step_96 ?_
            refine go_getR lf8_9 rfl hk.o hk.r0 dX8_step_97 ?_
            refine go_iload (i := 7) rfl dX8_step_100 ?_
            refine go_dup2 rfl rfl dX8_step_102 ?_
            refine go_iald (j := j) hk.i0 (by omega) (by first | decide | omega) rfl dX8_step_103 ?_
            refine go_iload (i := 6) rfl dX8_step_104 ?_
            refine go_iadd dX8_step_106 ?_
            refine go_iast (j := j) hk.i0 (by omega) (by first | decide | omega) rfl dX8_step_107 ?_
            rw [sI_sI, gI_s]
            refine gn_inc (i := 4) (a := i) (q := 1) rfl dX8_step_108 (nle rfl) rfl ?_
            refine go_goto (tgt := 11) dX8_step_111 (by decide) ?_
            refine ih _ _ _ _ ((hc.tr (hc1.mn (fun x hx => Or.inr hx))).tr (Ch.I (Or.inl rfl))) (fun k hk2 => ?_) ?_
            · rw [gI_s, show mvS (gI m (g + 1)) (tS P e (gI m (g + 1)) (gI m (g + 2)) 1) (nxS (gI m pl 0) (gI m pl 1) b) (i + 1) = _ from (if_neg h29).trans ((if_neg (show ¬ (nxS (gI m pl 0) (gI m pl 1) b) i < 0 from fun q => h86 q)).trans (if_neg (show ¬ nI 40 ≤ (nxS (gI m pl 0) (gI m pl 1) b) i from fun q => h93 q))), ej, nI_clamp (by omega)]
              have h0 : ∀ j, j < 40 → upd (gI m1 14) i (gI m1 14 i + (gI m (g + 1) i - (tS P e (gI m (g + 1)) (gI m (g + 2)) 1) i)) j = upd (mvS (gI m (g + 1)) (tS P e (gI m (g + 1)) (gI m (g + 2)) 1) (nxS (gI m pl 0) (gI m pl 1) b) i) i (mvS (gI m (g + 1)) (tS P e (gI m (g + 1)) (gI m (g + 2)) 1) (nxS (gI m pl 0) (gI m pl 1) b) i i + (gI m (g + 1) i - (tS P e (gI m (g + 1)) (gI m (g + 2)) 1) i)) j := upd_lt (fun j hj => by rw [eM1]; exact hM j hj) (by rw [eM1, hM i hi])
              exact upd_lt h0 (by rw [h0 j hj]) k hk2
            · rw [gI_n (by omega)]; exact hV1
  have k0 := key 0 (Nat.zero_le _) (sI m 14 (cp 40 (fun _ => nI 0) (gI m 14))) none none none (Ch.I (Or.inl rfl)) (fun k hk2 => by rw [gI_s, cp_in hk2]; rfl) (by rw [gI_n (by omega)]; exact hV)
  refine go_aload_n (q := 0) (i := 0) rfl rfl dX8_step_0 ?_
  refine go_getR lf8_9 rfl hk.o hk.r0 dX8_step_1 ?_
  refine go_iconst (v := nI 0) (by decide) dX8_step_4 ?_
  refine go_callS okmX11_fill lmX8_72 ⟨nle rfl, nle rfl⟩ (ev_fill (by decide) hk.i0) npmX11_fill rfl (nle rfl) ⟨nle rfl, nle rfl⟩ dX8_step_5 ?_
  rintro _ m0 ⟨rfl, h0⟩
  have hc0 : Ch (fun x => x = 14 ∨ x = pl + 12 ∨ x = pl + 13) m m0 := by rw [h0]; exact Ch.I (Or.inl rfl)
  refine go_c0 ?_
  refine go_iconst (v := nI 0) (by decide) dX8_step_8 ?_
  refine go_istore (i := 4) dX8_step_9 (nle rfl) (nle rfl) ?_
  subst h0
  exact k0
