theorem f1_out {P : Pl} {lo : Int32} {r : Nat → Int32} {k : Nat} (h : 40 ≤ k) : f1M P lo r k = r k := by
  have e : ∀ b r, r1M P b r k = r k := fun b r => if_neg (by omega)
  unfold f1M
  split
  · rfl
  · split
    · exact e _ _
    · rw [e, e]
theorem upd_ne {f : Nat → Int32} {i k : Nat} {v : Int32} (h : k ≠ i) : upd f i v k = f k := by simp [upd, h]
theorem upd_eq {f : Nat → Int32} {i : Nat} {v : Int32} : upd f i v i = v := by simp [upd]
theorem hr_out {P : Pl} {la lo : Int32} {r : Nat → Int32} {k : Nat} (hd : P.hd ≤ 4) (h : 105 ≤ k) : hrM P la lo r k = r k := by
  have e : r3M (r2M P (wM P (r 104)) la (f1M P lo r)) k = r k := by
    have e1 : r3M (r2M P (wM P (r 104)) la (f1M P lo r)) k = r2M P (wM P (r 104)) la (f1M P lo r) k := upd_ne (by omega)
    have e2 : r2M P (wM P (r 104)) la (f1M P lo r) k = f1M P lo r k := pwD_f (fun q => absurd q.1 (by omega))
    rw [e1, e2, f1_out (by omega)]
  unfold hrM
  split
  · rw [show r4M P P.hd _ k = _ from if_neg (by omega)]; exact e
  · exact e
theorem hrN_out {P : Pl} {la lo : Int32} {r : Nat → Int32} {k : Nat} (hd : P.hd ≤ 4) (h : 105 ≤ k) : ∀ n, hrN P la lo n r k = r k
  | 0 => rfl
  | n + 1 => (hr_out hd h).trans (hrN_out hd h n)
theorem cp_same {A B C : Nat → Int32} {n : Nat} (h : ∀ k, n ≤ k → B k = C k) : cp n A B = cp n A C := by
  funext k
  unfold cp
  by_cases q : k < n
  · rw [if_pos q, if_pos q]
  · rw [if_neg q, if_neg q]; exact h k (by omega)
/-- the first of them that answers -/
def fsN (f : Nat → Option Int32) : Nat → Nat → Int32
  | 0, _ => -2
  | k + 1, i => match f i with
    | some v => v
    | none => fsN f k (i + 1)
theorem fs_s {f : Nat → Option Int32} {i N : Nat} {v : Int32} (hi : i < N) (h : f i = some v) : fsN f (N - i) i = v := by
  obtain ⟨k, hk⟩ : ∃ k, N - i = k + 1 := ⟨N - i - 1, by omega⟩
  rw [hk]; unfold fsN; rw [h]
theorem fs_n {f : Nat → Option Int32} {i N : Nat} (hi : i < N) (h : f i = none) : fsN f (N - i) i = fsN f (N - (i + 1)) (i + 1) := by
  obtain ⟨k, hk⟩ : ∃ k, N - i = k + 1 := ⟨N - i - 1, by omega⟩
  rw [hk, show N - (i + 1) = k by omega]
  show (match f i with
    | some v => v
    | none => fsN f k (i + 1)) = _
  rw [h]
theorem fs_e {f : Nat → Option Int32} {N : Nat} : fsN f (N - N) N = -2 := by rw [Nat.sub_self]; rfl
noncomputable def clS (P : Pl) (r : Nat → Int32) (x y w : Int32) : Int32 := if ceS P x y < 0 then -100 else if inS w (nI 0) (nI 3) = nI 0 then -100 else if w = nI 0 then r (ceS P x y).toNatClampNeg else if w = nI 1 then r (40 + (ceS P x y).toNatClampNeg) else if w = nI 2 then tM P (eW (r 104) (wM P (r 104))) r 1 (ceS P x y).toNatClampNeg else tM P (eW (r 104) (wM P (r 104))) r 2 (ceS P x y).toNatClampNeg
noncomputable def lentS (P : Pl) (r : Nat → Int32) (h o : Int32) : Int32 := if inS h (nI 0) (nI P.hd - nI 1) = nI 0 then -1 else if inS o (nI 0) (nI P.hd - nI 1) = nI 0 then -1 else if h = o then -1 else r (88 + (h.toNatClampNeg * 4 + o.toNatClampNeg))
noncomputable def yearS (P : Pl) (r : Nat → Int32) (u n s : Int32) : Int32 := if inS u (nI 0) (nI P.us - nI 1) = nI 0 then -1 else if inS n (nI 0) (nI 72) = nI 0 then -1 else if inS s (nI 1) (nI 20) = nI 0 then -1 else nI (cnt (fun i => svS P (hrN P (-1) (P.se + nI i) n.toNatClampNeg r) u.toNatClampNeg = nI 1) s.toNatClampNeg)
noncomputable def goneF (P : Pl) (r : Nat → Int32) (w : Int32) (t : Nat) : Nat → Nat → Option Int32
  | 0, _ => none
  | k + 1, i => if 0 < ctY (fun c => hrN P (-1) P.se t r (40 + c)) (nI i) P.wd P.rw ∧ fgY (hrN P (-1) P.se t r) (fun c => hrN P (-1) P.se t r (40 + c)) (nI i) P.wd P.rw = nI 0 then some (if w = nI 0 then nI i else nI t) else goneF P r w t k (i + 1)
set_option maxRecDepth 100000 in
set_option maxHeartbeats 8000000 in
theorem ev_cell {m : Me} {pl dr M : Nat} {P : Pl} {r : Nat → Int32} (hX : CX m.1 (gR m) pl dr) (hP : PlC m pl P) (ok : PlOk P) (hM : M < 2 ^ 18) (hr : RoOk P M r) (hc : CR P (gw m 15) r) {x y w : Int32} : Ev mX11_cell [.ref 0, .int x, .int y, .int w] m (fun o m' => o = some (.int (clS P r x y w)) ∧ Ch (LkS pl) m m') := by
  refine ⟨plmX11_cell, nle rfl, ?_⟩
  have hw8 := ok.1
  have hr5 := ok.2.1
  have hpd := hX.pd
  have hh4 := ok.2.2.1
  have hu6 := ok.2.2.2.1
  rcases ce_c ok x y with ⟨hca, hic⟩ | ⟨a, b, ha, hb, rfl, rfl, hca, hic⟩
  · skip
    refine go_aload_n (q := 0) (i := 0) rfl rfl dX11_cell_0 ?_
    refine go_getR lf11_86 rfl hX.o hX.rp dX11_cell_1 ?_
    refine go_iload_n (q := 1) (i := 1) rfl rfl dX11_cell_4 ?_
    refine go_iload_n (q := 2) (i := 2) rfl rfl dX11_cell_5 ?_
    refine go_callV okmX7_cellAt lmX11_126 ⟨nle rfl, nle rfl⟩ hX.wp.o ⟨by decide, rfl⟩ (ev_cellAt hX.wp) npmX7_cellAt rfl (nle rfl) ⟨nle rfl, nle rfl⟩ dX11_cell_6 ?_
    rintro _ mz ⟨rfl, hz⟩
    subst mz
    rw [hP.wd, hP.rw, show caS (nI P.wd) (nI P.rw) _ _ = _ from hca]
    refine go_c1 ?_
    refine go_istore (i := 4) dX11_cell_9 (nle rfl) (nle rfl) ?_
    refine go_iload (i := 4) rfl dX11_cell_11 ?_
    refine go_if_lt (tgt := 23) dX11_cell_13 (by decide) (fun h13 => ?_) (fun h13 => by exfalso; exact h13 (by decide))
    refine go_bipush (v := -100) (by decide) dX11_cell_23 ?_
    refine go_iret rfl ⟨Nat.zero_le _, Nat.zero_le _⟩ dX11_cell_25 ?_
    refine ⟨?_, Ch.rf⟩
    simp only [clS, hca, i10, reduceIte, cneg]
  · skip
    rcases in_c w (N := 3) (by decide) with hw | ⟨k, hk, rfl, hw⟩
    · skip
      refine go_aload_n (q := 0) (i := 0) rfl rfl dX11_cell_0 ?_
      refine go_getR lf11_86 rfl hX.o hX.rp dX11_cell_1 ?_
      refine go_iload_n (q := 1) (i := 1) rfl rfl dX11_cell_4 ?_
      refine go_iload_n (q := 2) (i := 2) rfl rfl dX11_cell_5 ?_
      refine go_callV okmX7_cellAt lmX11_126 ⟨nle rfl, nle rfl⟩ hX.wp.o ⟨by decide, rfl⟩ (ev_cellAt hX.wp) npmX7_cellAt rfl (nle rfl) ⟨nle rfl, nle rfl⟩ dX11_cell_6 ?_
      rintro _ mz ⟨rfl, hz⟩
      subst mz
      rw [hP.wd, hP.rw, show caS (nI P.wd) (nI P.rw) _ _ = _ from hca]
      refine go_c1 ?_
      refine go_istore (i := 4) dX11_cell_9 (nle rfl) (nle rfl) ?_
      refine go_iload (i := 4) rfl dX11_cell_11 ?_
      refine gz_lt (by omega) (tgt := 23) dX11_cell_13 (by decide) (fun h13 => by exfalso; omega) (fun h13 => ?_)
      refine go_iload (i := 4) rfl dX11_cell_16 ?_
      refine go_bipush (v := nI 40) (by decide) dX11_cell_18 ?_
      refine gn_lt (by omega) (by omega) (tgt := 26) dX11_cell_20 (by decide) (fun h20 => ?_) (fun h20 => by exfalso; omega)
      refine go_iload_n (q := 3) (i := 3) rfl rfl dX11_cell_26 ?_
      refine go_tswOut (tgt := 154) dX11_cell_27 (in_out (by decide) hw) (by decide) ?_
      refine go_bipush (v := -100) (by decide) dX11_cell_154 ?_
      refine go_iret rfl ⟨Nat.zero_le _, Nat.zero_le _⟩ dX11_cell_156 ?_
      refine ⟨?_, Ch.rf⟩
      simp only [clS, hca, hw, i10, reduceIte, cpos (show 8 * b + a < 2 ^ 31 by omega)]
    · skip
      rcases (show k = 0 ∨ k = 1 ∨ k = 2 ∨ k = 3 by omega) with rfl | rfl | rfl | rfl
      · skip
        refine go_aload_n (q := 0) (i := 0) rfl rfl dX11_cell_0 ?_
        refine go_getR lf11_86 rfl hX.o hX.rp dX11_cell_1 ?_
        refine go_iload_n (q := 1) (i := 1) rfl rfl dX11_cell_4 ?_
        refine go_iload_n (q := 2) (i := 2) rfl rfl dX11_cell_5 ?_
        refine go_callV okmX7_cellAt lmX11_126 ⟨nle rfl, nle rfl⟩ hX.wp.o ⟨by decide, rfl⟩ (ev_cellAt hX.wp) npmX7_cellAt rfl (nle rfl) ⟨nle rfl, nle rfl⟩ dX11_cell_6 ?_
        rintro _ mz ⟨rfl, hz⟩
        subst mz
        rw [hP.wd, hP.rw, show caS (nI P.wd) (nI P.rw) _ _ = _ from hca]
        refine go_c1 ?_
        refine go_istore (i := 4) dX11_cell_9 (nle rfl) (nle rfl) ?_
        refine go_iload (i := 4) rfl dX11_cell_11 ?_
        refine gz_lt (by omega) (tgt := 23) dX11_cell_13 (by decide) (fun h13 => by exfalso; omega) (fun h13 => ?_)
        refine go_iload (i := 4) rfl dX11_cell_16 ?_
        refine go_bipush (v := nI 40) (by decide) dX11_cell_18 ?_
        refine gn_lt (by omega) (by omega) (tgt := 26) dX11_cell_20 (by decide) (fun h20 => ?_) (fun h20 => by exfalso; omega)
        refine go_iload_n (q := 3) (i := 3) rfl rfl dX11_cell_26 ?_
        refine go_tswIn (off := 29) (tgt := 56) dX11_cell_27 (by decide) (by decide) (by decide) (by decide) ?_
        refine go_aload_n (q := 0) (i := 0) rfl rfl dX11_cell_56 ?_
        refine go_getR lf11_47 rfl hX.o hX.r5 dX11_cell_57 ?_
        refine go_getR lf11_130 rfl hX.w5.o hX.w5.r1 dX11_cell_60 ?_
        refine go_iload (i := 4) rfl dX11_cell_63 ?_
        refine go_iald (j := (8 * b + a)) hX.w5.i1 (by omega) (by first | decide | omega) rfl dX11_cell_65 ?_
        rw [show gI m (15 + 1) (8 * b + a) = _ from (gw_f (by omega)).trans (hc.f (by omega))]
        refine go_iret rfl ⟨Nat.zero_le _, Nat.zero_le _⟩ dX11_cell_66 ?_
        refine ⟨?_, Ch.rf⟩
        simp only [clS, hca, hw, i10, reduceIte, i20, i21, i3x.1, i3x.2.1, i3x.2.2.1, i3x.2.2.2.1, i3x.2.2.2.2.1, i3x.2.2.2.2.2.1, i3x.2.2.2.2.2.2, cpos (show 8 * b + a < 2 ^ 31 by omega), nI_clamp (show 8 * b + a < 2 ^ 31 by omega)]
      · skip
        refine go_aload_n (q := 0) (i := 0) rfl rfl dX11_cell_0 ?_
        refine go_getR lf11_86 rfl hX.o hX.rp dX11_cell_1 ?_
        refine go_iload_n (q := 1) (i := 1) rfl rfl dX11_cell_4 ?_
        refine go_iload_n (q := 2) (i := 2) rfl rfl dX11_cell_5 ?_
        refine go_callV okmX7_cellAt lmX11_126 ⟨nle rfl, nle rfl⟩ hX.wp.o ⟨by decide, rfl⟩ (ev_cellAt hX.wp) npmX7_cellAt rfl (nle rfl) ⟨nle rfl, nle rfl⟩ dX11_cell_6 ?_
        rintro _ mz ⟨rfl, hz⟩
        subst mz
        rw [hP.wd, hP.rw, show caS (nI P.wd) (nI P.rw) _ _ = _ from hca]
        refine go_c1 ?_
        refine go_istore (i := 4) dX11_cell_9 (nle rfl) (nle rfl) ?_
        refine go_iload (i := 4) rfl dX11_cell_11 ?_
        refine gz_lt (by omega) (tgt := 23) dX11_cell_13 (by decide) (fun h13 => by exfalso; omega) (fun h13 => ?_)
        refine go_iload (i := 4) rfl dX11_cell_16 ?_
        refine go_bipush (v := nI 40) (by decide) dX11_cell_18 ?_
        refine gn_lt (by omega) (by omega) (tgt := 26) dX11_cell_20 (by decide) (fun h20 => ?_) (fun h20 => by exfalso; omega)
        refine go_iload_n (q := 3) (i := 3) rfl rfl dX11_cell_26 ?_
        refine go_tswIn (off := 40) (tgt := 67) dX11_cell_27 (by decide) (by decide) (by decide) (by decide) ?_
        refine go_aload_n (q := 0) (i := 0) rfl rfl dX11_cell_67 ?_
        refine go_getR lf11_47 rfl hX.o hX.r5 dX11_cell_68 ?_
        refine go_getR lf11_134 rfl hX.w5.o hX.w5.r2 dX11_cell_71 ?_
        refine go_iload (i := 4) rfl dX11_cell_74 ?_
        refine go_iald (j := (8 * b + a)) hX.w5.i2 (by omega) (by first | decide | omega) rfl dX11_cell_76 ?_
        rw [show gI m (15 + 2) (8 * b + a) = _ from (gw_w (by omega)).trans (hc.w (by omega) ⟨by omega, by omega⟩)]
        refine go_iret rfl ⟨Nat.zero_le _, Nat.zero_le _⟩ dX11_cell_77 ?_
        refine ⟨?_, Ch.rf⟩
        simp only [clS, hca, hw, i10, reduceIte, i20, i21, i3x.1, i3x.2.1, i3x.2.2.1, i3x.2.2.2.1, i3x.2.2.2.2.1, i3x.2.2.2.2.2.1, i3x.2.2.2.2.2.2, cpos (show 8 * b + a < 2 ^ 31 by omega), nI_clamp (show 8 * b + a < 2 ^ 31 by omega)]
      · skip
        refine go_aload_n (q := 0) (i := 0) rfl rfl dX11_cell_0 ?_
        refine go_getR lf11_86 rfl hX.o hX.rp dX11_cell_1 ?_
        refine go_iload_n (q := 1) (i := 1) rfl rfl dX11_cell_4 ?_
        refine go_iload_n (q := 2) (i := 2) rfl rfl dX11_cell_5 ?_
        refine go_callV okmX7_cellAt lmX11_126 ⟨nle rfl, nle rfl⟩ hX.wp.o ⟨by decide, rfl⟩ (ev_cellAt hX.wp) npmX7_cellAt rfl (nle rfl) ⟨nle rfl, nle rfl⟩ dX11_cell_6 ?_
        rintro _ mz ⟨rfl, hz⟩
        subst mz
        rw [hP.wd, hP.rw, show caS (nI P.wd) (nI P.rw) _ _ = _ from hca]
        refine go_c1 ?_
        refine go_istore (i := 4) dX11_cell_9 (nle rfl) (nle rfl) ?_
        refine go_iload (i := 4) rfl dX11_cell_11 ?_
        refine gz_lt (by omega) (tgt := 23) dX11_cell_13 (by decide) (fun h13 => by exfalso; omega) (fun h13 => ?_)
        refine go_iload (i := 4) rfl dX11_cell_16 ?_
        refine go_bipush (v := nI 40) (by decide) dX11_cell_18 ?_
        refine gn_lt (by omega) (by omega) (tgt := 26) dX11_cell_20 (by decide) (fun h20 => ?_) (fun h20 => by exfalso; omega)
        refine go_iload_n (q := 3) (i := 3) rfl rfl dX11_cell_26 ?_
        refine go_tswIn (off := 51) (tgt := 78) dX11_cell_27 (by decide) (by decide) (by decide) (by decide) ?_
        refine go_aload_n (q := 0) (i := 0) rfl rfl dX11_cell_78 ?_
        refine go_getR lf11_40 rfl hX.o hX.r4 dX11_cell_79 ?_
        refine go_aload_n (q := 0) (i := 0) rfl rfl dX11_cell_82 ?_
        refine go_getR lf11_86 rfl hX.o hX.rp dX11_cell_83 ?_
        refine go_aload_n (q := 0) (i := 0) rfl rfl dX11_cell_86 ?_
        refine go_getR lf11_47 rfl hX.o hX.r5 dX11_cell_87 ?_
        refine go_getI lf11_137 rfl hX.w5.o dX11_cell_90 ?_
        rw [show gI m 15 0 = r 104 from (gw_h (m := m) (g := 15)).trans (hc.s (by omega) (by omega))]
        refine go_callV okmX8_beginHour lmX11_140 ⟨nle rfl, nle rfl⟩ hX.w4.o ⟨by decide, rfl⟩ (ev_beginHour hX.w4 hX.wp hP.lw ok) npmX8_beginHour rfl (nle rfl) ⟨nle rfl, nle rfl⟩ dX11_cell_93 ?_
        rintro _ m2 ⟨rfl, cB, hB⟩
        have c2 : Ch (LkS pl) m m2 := cB.mn (fun x hx => by unfold LkS; omega)
        have hV : hv (gI m2 (pl + 12)) (eW (r 104) (wM P (r 104))) := fun i hi _ _ _ _ => by rw [← w_eq]; exact hB i hi
        have hP := hP.lk hX c2
        have hX := CX.to c2 hX
        have hc := hc.gwto c2 hpd
        refine go_c1 ?_
        refine go_pop rfl dX11_cell_96 ?_
        refine go_aload_n (q := 0) (i := 0) rfl rfl dX11_cell_97 ?_
        refine go_getR lf11_40 rfl hX.o hX.r4 dX11_cell_98 ?_
        refine go_aload_n (q := 0) (i := 0) rfl rfl dX11_cell_101 ?_
        refine go_getR lf11_86 rfl hX.o hX.rp dX11_cell_102 ?_
        refine go_aload_n (q := 0) (i := 0) rfl rfl dX11_cell_105 ?_
        refine go_getR lf11_47 rfl hX.o hX.r5 dX11_cell_106 ?_
        refine go_iload (i := 4) rfl dX11_cell_109 ?_
        refine go_iconst (v := nI 1) (by decide) dX11_cell_111 ?_
        refine go_callV okmX8_ofCell lmX11_144 ⟨nle rfl, nle rfl⟩ hX.w4.o ⟨by decide, rfl⟩ (ev_ofCell (k := 1) hX.w4 hX.wp hX.w5 hP.lw ok (by omega) (by omega) (by decide) hV) npmX8_ofCell rfl (nle rfl) ⟨nle rfl, nle rfl⟩ dX11_cell_112 ?_
        rintro _ m3 ⟨rfl, cC, -⟩
        have c3 : Ch (LkS pl) m m3 := c2.tr (cC.mn (fun x hx => by unfold LkS; omega))
        rw [show wiS _ _ = tM P (eW (r 104) (wM P (r 104))) r 1 (8 * b + a) from (t_eq (P := P) (F := gI m2 (15 + 1)) (W := gI m2 (15 + 2)) (r := r) (B := 99) (by decide) hr.1 (fun c hq => (gw_f hq).trans (hc.f hq)) (fun c hq l => (gw_w hq).trans (hc.w hq l)) (show 8 * b + a < 40 by omega)).1]
        refine go_c1 ?_
        refine go_iret rfl ⟨Nat.zero_le _, Nat.zero_le _⟩ dX11_cell_115 ?_
        refine ⟨?_, c3⟩
        simp only [clS, hca, hw, i10, reduceIte, i20, i21, i3x.1, i3x.2.1, i3x.2.2.1, i3x.2.2.2.1, i3x.2.2.2.2.1, i3x.2.2.2.2.2.1, i3x.2.2.2.2.2.2, cpos (show 8 * b + a < 2 ^ 31 by omega), nI_clamp (show 8 * b + a < 2 ^ 31 by omega)]
      · skip
        refine go_aload_n (q := 0) (i := 0) rfl rfl dX11_cell_0 ?_
        refine go_getR lf11_86 rfl hX.o hX.rp dX11_cell_1 ?_
        refine go_iload_n (q := 1) (i := 1) rfl rfl dX11_cell_4 ?_
        refine go_iload_n (q := 2) (i := 2) rfl rfl dX11_cell_5 ?_
        refine go_callV okmX7_cellAt lmX11_126 ⟨nle rfl, nle rfl⟩ hX.wp.o ⟨by decide, rfl⟩ (ev_cellAt hX.wp) npmX7_cellAt rfl (nle rfl) ⟨nle rfl, nle rfl⟩ dX11_cell_6 ?_
        rintro _ mz ⟨rfl, hz⟩
        subst mz
        rw [hP.wd, hP.rw, show caS (nI P.wd) (nI P.rw) _ _ = _ from hca]
        refine go_c1 ?_
        refine go_istore (i := 4) dX11_cell_9 (nle rfl) (nle rfl) ?_
        refine go_iload (i := 4) rfl dX11_cell_11 ?_
        refine gz_lt (by omega) (tgt := 23) dX11_cell_13 (by decide) (fun h13 => by exfalso; omega) (fun h13 => ?_)
        refine go_iload (i := 4) rfl dX11_cell_16 ?_
        refine go_bipush (v := nI 40) (by decide) dX11_cell_18 ?_
        refine gn_lt (by omega) (by omega) (tgt := 26) dX11_cell_20 (by decide) (fun h20 => ?_) (fun h20 => by exfalso; omega)
        refine go_iload_n (q := 3) (i := 3) rfl rfl dX11_cell_26 ?_
        refine go_tswIn (off := 89) (tgt := 116) dX11_cell_27 (by decide) (by decide) (by decide) (by decide) ?_
        refine go_aload_n (q := 0) (i := 0) rfl rfl dX11_cell_116 ?_
        refine go_getR lf11_40 rfl hX.o hX.r4 dX11_cell_117 ?_
        refine go_aload_n (q := 0) (i := 0) rfl rfl dX11_cell_120 ?_
        refine go_getR lf11_86 rfl hX.o hX.rp dX11_cell_121 ?_
        refine go_aload_n (q := 0) (i := 0) rfl rfl dX11_cell_124 ?_
        refine go_getR lf11_47 rfl hX.o hX.r5 dX11_cell_125 ?_
        refine go_getI lf11_137 rfl hX.w5.o dX11_cell_128 ?_
        rw [show gI m 15 0 = r 104 from (gw_h (m := m) (g := 15)).trans (hc.s (by omega) (by omega))]
        refine go_callV okmX8_beginHour lmX11_140 ⟨nle rfl, nle rfl⟩ hX.w4.o ⟨by decide, rfl⟩ (ev_beginHour hX.w4 hX.wp hP.lw ok) npmX8_beginHour rfl (nle rfl) ⟨nle rfl, nle rfl⟩ dX11_cell_131 ?_
        rintro _ m2 ⟨rfl, cB, hB⟩
        have c2 : Ch (LkS pl) m m2 := cB.mn (fun x hx => by unfold LkS; omega)
        have hV : hv (gI m2 (pl + 12)) (eW (r 104) (wM P (r 104))) := fun i hi _ _ _ _ => by rw [← w_eq]; exact hB i hi
        have hP := hP.lk hX c2
        have hX := CX.to c2 hX
        have hc := hc.gwto c2 hpd
        refine go_c1 ?_
        refine go_pop rfl dX11_cell_134 ?_
        refine go_aload_n (q := 0) (i := 0) rfl rfl dX11_cell_135 ?_
        refine go_getR lf11_40 rfl hX.o hX.r4 dX11_cell_136 ?_
        refine go_aload_n (q := 0) (i := 0) rfl rfl dX11_cell_139 ?_
        refine go_getR lf11_86 rfl hX.o hX.rp dX11_cell_140 ?_
        refine go_aload_n (q := 0) (i := 0) rfl rfl dX11_cell_143 ?_
        refine go_getR lf11_47 rfl hX.o hX.r5 dX11_cell_144 ?_
        refine go_iload (i := 4) rfl dX11_cell_147 ?_
        refine go_iconst (v := nI 2) (by decide) dX11_cell_149 ?_
        refine go_callV okmX8_ofCell lmX11_144 ⟨nle rfl, nle rfl⟩ hX.w4.o ⟨by decide, rfl⟩ (ev_ofCell (k := 2) hX.w4 hX.wp hX.w5 hP.lw ok (by omega) (by omega) (by decide) hV) npmX8_ofCell rfl (nle rfl) ⟨nle rfl, nle rfl⟩ dX11_cell_150 ?_
        rintro _ m3 ⟨rfl, cC, -⟩
        have c3 : Ch (LkS pl) m m3 := c2.tr (cC.mn (fun x hx => by unfold LkS; omega))
        rw [show wiS _ _ = tM P (eW (r 104) (wM P (r 104))) r 2 (8 * b + a) from (t_eq (P := P) (F := gI m2 (15 + 1)) (W := gI m2 (15 + 2)) (r := r) (B := 99) (by decide) hr.1 (fun c hq => (gw_f hq).trans (hc.f hq)) (fun c hq l => (gw_w hq).trans (hc.w hq l)) (show 8 * b + a < 40 by omega)).1]
        refine go_c1 ?_
        refine go_iret rfl ⟨Nat.zero_le _, Nat.zero_le _⟩ dX11_cell_153 ?_
        refine ⟨?_, c3⟩
        simp only [clS, hca, hw, i10, reduceIte, i20, i21, i3x.1, i3x.2.1, i3x.2.2.1, i3x.2.2.2.1, i3x.2.2.2.2.1, i3x.2.2.2.2.2.1, i3x.2.2.2.2.2.2, cpos (show 8 * b + a < 2 ^ 31 by omega), nI_clamp (show 8 * b + a < 2 ^ 31 by omega)]
set_option maxRecDepth 100000 in
set_option maxHeartbeats 8000000 in
theorem ex_cell {m : Me} {P : Pl} {lv : Nat} (hx : Wf12 m.1 (gR m)) (hm : MdC m P lv) (ok : PlOk P) {x y w : Int32} : Ev mX12_cell [.ref 274, .int x, .int y, .int w] m (fun o m' => o = some (.int (clS P (cp 105 (gI m 315) (gI m 316)) x y w)) ∧ Mo m m') := by
  refine ⟨plmX12_cell, nle rfl, ?_⟩
  have hw8 := ok.1
  have hr5 := ok.2.1
  have hlv := hm.lv
  have hh4 := ok.2.2.1
  have hu6 := ok.2.2.2.1
  rcases ce_c ok x y with ⟨hca, hic⟩ | ⟨a, b, ha, hb, rfl, rfl, hca, hic⟩
  · skip
    refine go_aload_n (q := 0) (i := 0) rfl rfl dX12_cell_0 ?_
    refine go_iload_n (q := 1) (i := 1) rfl rfl dX12_cell_1 ?_
    refine go_iload_n (q := 2) (i := 2) rfl rfl dX12_cell_2 ?_
    refine go_callV okmX12_isCell lmX12_394 ⟨nle rfl, nle rfl⟩ hx.o ⟨by decide, rfl⟩ (ex_isCell hx hm) npmX12_isCell rfl (nle rfl) ⟨nle rfl, nle rfl⟩ dX12_cell_3 ?_
    rintro _ mz ⟨rfl, hz⟩
    subst mz
    rw [hic]
    refine go_c1 ?_
    refine gz_ne (by omega) (tgt := 12) dX12_cell_6 (by decide) (fun h6 => by exfalso; omega) (fun h6 => ?_)
    refine go_bipush (v := -100) (by decide) dX12_cell_9 ?_
    refine go_iret rfl ⟨Nat.zero_le _, Nat.zero_le _⟩ dX12_cell_11 ?_
    refine ⟨?_, Mo.rf⟩
    simp only [clS, hca, i10, reduceIte, cneg]
  · skip
    rcases in_c w (N := 3) (by decide) with hw | ⟨k, hk, rfl, hw⟩
    · skip
      refine go_aload_n (q := 0) (i := 0) rfl rfl dX12_cell_0 ?_
      refine go_iload_n (q := 1) (i := 1) rfl rfl dX12_cell_1 ?_
      refine go_iload_n (q := 2) (i := 2) rfl rfl dX12_cell_2 ?_
      refine go_callV okmX12_isCell lmX12_394 ⟨nle rfl, nle rfl⟩ hx.o ⟨by decide, rfl⟩ (ex_isCell hx hm) npmX12_isCell rfl (nle rfl) ⟨nle rfl, nle rfl⟩ dX12_cell_3 ?_
      rintro _ mz ⟨rfl, hz⟩
      subst mz
      rw [hic]
      refine go_c1 ?_
      refine gz_ne (by omega) (tgt := 12) dX12_cell_6 (by decide) (fun h6 => ?_) (fun h6 => by exfalso; omega)
      refine go_aload_n (q := 0) (i := 0) rfl rfl dX12_cell_12 ?_
      refine go_callV okmX12_copies lmX12_413 ⟨nle rfl, nle rfl⟩ hx.o ⟨by decide, rfl⟩ (ex_copies hx hm) npmX12_copies rfl (nle rfl) ⟨nle rfl, nle rfl⟩ dX12_cell_13 ?_
      rintro _ m1 ⟨rfl, c1, e1, s1, l1, -⟩
      have hx := c1.wf hx
      have hm := c1.md hm
      refine go_c0 ?_
      refine go_iload_n (q := 3) (i := 3) rfl rfl dX12_cell_16 ?_
      refine go_tswOut (tgt := 113) dX12_cell_17 (in_out (by decide) hw) (by decide) ?_
      refine go_bipush (v := -100) (by decide) dX12_cell_113 ?_
      refine go_iret rfl ⟨Nat.zero_le _, Nat.zero_le _⟩ dX12_cell_115 ?_
      refine ⟨?_, c1⟩
      simp only [clS, hca, hw, i10, reduceIte, cpos (show 8 * b + a < 2 ^ 31 by omega)]
    · skip
      rcases (show k = 0 ∨ k = 1 ∨ k = 2 ∨ k = 3 by omega) with rfl | rfl | rfl | rfl
      · skip
        refine go_aload_n (q := 0) (i := 0) rfl rfl dX12_cell_0 ?_
        refine go_iload_n (q := 1) (i := 1) rfl rfl dX12_cell_1 ?_
        refine go_iload_n (q := 2) (i := 2) rfl rfl dX12_cell_2 ?_
        refine go_callV okmX12_isCell lmX12_394 ⟨nle rfl, nle rfl⟩ hx.o ⟨by decide, rfl⟩ (ex_isCell hx hm) npmX12_isCell rfl (nle rfl) ⟨nle rfl, nle rfl⟩ dX12_cell_3 ?_
        rintro _ mz ⟨rfl, hz⟩
        subst mz
        rw [hic]
        refine go_c1 ?_
        refine gz_ne (by omega) (tgt := 12) dX12_cell_6 (by decide) (fun h6 => ?_) (fun h6 => by exfalso; omega)
        refine go_aload_n (q := 0) (i := 0) rfl rfl dX12_cell_12 ?_
        refine go_callV okmX12_copies lmX12_413 ⟨nle rfl, nle rfl⟩ hx.o ⟨by decide, rfl⟩ (ex_copies hx hm) npmX12_copies rfl (nle rfl) ⟨nle rfl, nle rfl⟩ dX12_cell_13 ?_
        rintro _ m1 ⟨rfl, c1, e1, s1, l1, -⟩
        have hx := c1.wf hx
        have hm := c1.md hm
        refine go_c0 ?_
        refine go_iload_n (q := 3) (i := 3) rfl rfl dX12_cell_16 ?_
        refine go_tswIn (off := 31) (tgt := 48) dX12_cell_17 (by decide) (by decide) (by decide) (by decide) ?_
        refine go_aload_n (q := 0) (i := 0) rfl rfl dX12_cell_48 ?_
        refine go_getR lf12_143 rfl hx.o hx.r59 dX12_cell_49 ?_
        refine go_bipush (v := nI 8) (by decide) dX12_cell_52 ?_
        refine go_iload_n (q := 2) (i := 2) rfl rfl dX12_cell_54 ?_
        refine gn_mul dX12_cell_55 ?_
        refine go_iload_n (q := 1) (i := 1) rfl rfl dX12_cell_56 ?_
        refine gn_add dX12_cell_57 ?_
        refine go_iald (j := ((8 * b) + a)) hx.i59 (by omega) (by first | decide | omega) rfl dX12_cell_58 ?_
        rw [e1]
        refine go_iret rfl ⟨Nat.zero_le _, Nat.zero_le _⟩ dX12_cell_59 ?_
        refine ⟨?_, c1⟩
        simp only [clS, hca, hw, i10, reduceIte, i20, i21, i3x.1, i3x.2.1, i3x.2.2.1, i3x.2.2.2.1, i3x.2.2.2.2.1, i3x.2.2.2.2.2.1, i3x.2.2.2.2.2.2, cpos (show 8 * b + a < 2 ^ 31 by omega), nI_clamp (show 8 * b + a < 2 ^ 31 by omega)]
      · skip
        refine go_aload_n (q := 0) (i := 0) rfl rfl dX12_cell_0 ?_
        refine go_iload_n (q := 1) (i := 1) rfl rfl dX12_cell_1 ?_
        refine go_iload_n (q := 2) (i := 2) rfl rfl dX12_cell_2 ?_
        refine go_callV okmX12_isCell lmX12_394 ⟨nle rfl, nle rfl⟩ hx.o ⟨by decide, rfl⟩ (ex_isCell hx hm) npmX12_isCell rfl (nle rfl) ⟨nle rfl, nle rfl⟩ dX12_cell_3 ?_
        rintro _ mz ⟨rfl, hz⟩
        subst mz
        rw [hic]
        refine go_c1 ?_
        refine gz_ne (by omega) (tgt := 12) dX12_cell_6 (by decide) (fun h6 => ?_) (fun h6 => by exfalso; omega)
        refine go_aload_n (q := 0) (i := 0) rfl rfl dX12_cell_12 ?_
        refine go_callV okmX12_copies lmX12_413 ⟨nle rfl, nle rfl⟩ hx.o ⟨by decide, rfl⟩ (ex_copies hx hm) npmX12_copies rfl (nle rfl) ⟨nle rfl, nle rfl⟩ dX12_cell_13 ?_
        rintro _ m1 ⟨rfl, c1, e1, s1, l1, -⟩
        have hx := c1.wf hx
        have hm := c1.md hm
        refine go_c0 ?_
        refine go_iload_n (q := 3) (i := 3) rfl rfl dX12_cell_16 ?_
        refine go_tswIn (off := 43) (tgt := 60) dX12_cell_17 (by decide) (by decide) (by decide) (by decide) ?_
        refine go_aload_n (q := 0) (i := 0) rfl rfl dX12_cell_60 ?_
        refine go_getR lf12_143 rfl hx.o hx.r59 dX12_cell_61 ?_
        refine go_bipush (v := nI 40) (by decide) dX12_cell_64 ?_
        refine go_bipush (v := nI 8) (by decide) dX12_cell_66 ?_
        refine go_iload_n (q := 2) (i := 2) rfl rfl dX12_cell_68 ?_
        refine gn_mul dX12_cell_69 ?_
        refine gn_add dX12_cell_70 ?_
        refine go_iload_n (q := 1) (i := 1) rfl rfl dX12_cell_71 ?_
        refine gn_add dX12_cell_72 ?_
        refine go_iald (j := ((40 + (8 * b)) + a)) hx.i59 (by omega) (by first | decide | omega) rfl dX12_cell_73 ?_
        rw [e1]
        rw [show 40 + 8 * b + a = 40 + (8 * b + a) by omega]
        refine go_iret rfl ⟨Nat.zero_le _, Nat.zero_le _⟩ dX12_cell_74 ?_
        refine ⟨?_, c1⟩
        simp only [clS, hca, hw, i10, reduceIte, i20, i21, i3x.1, i3x.2.1, i3x.2.2.1, i3x.2.2.2.1, i3x.2.2.2.2.1, i3x.2.2.2.2.2.1, i3x.2.2.2.2.2.2, cpos (show 8 * b + a < 2 ^ 31 by omega), nI_clamp (show 8 * b + a < 2 ^ 31 by omega)]
      · skip
        refine go_aload_n (q := 0) (i := 0) rfl rfl dX12_cell_0 ?_
        refine go_iload_n (q := 1) (i := 1) rfl rfl dX12_cell_1 ?_
        refine go_iload_n (q := 2) (i := 2) rfl rfl dX12_cell_2 ?_
        refine go_callV okmX12_isCell lmX12_394 ⟨nle rfl, nle rfl⟩ hx.o ⟨by decide, rfl⟩ (ex_isCell hx hm) npmX12_isCell rfl (nle rfl) ⟨nle rfl, nle rfl⟩ dX12_cell_3 ?_
        rintro _ mz ⟨rfl, hz⟩
        subst mz
        rw [hic]
        refine go_c1 ?_
        refine gz_ne (by omega) (tgt := 12) dX12_cell_6 (by decide) (fun h6 => ?_) (fun h6 => by exfalso; omega)
        refine go_aload_n (q := 0) (i := 0) rfl rfl dX12_cell_12 ?_
        refine go_callV okmX12_copies lmX12_413 ⟨nle rfl, nle rfl⟩ hx.o ⟨by decide, rfl⟩ (ex_copies hx hm) npmX12_copies rfl (nle rfl) ⟨nle rfl, nle rfl⟩ dX12_cell_13 ?_
        rintro _ m1 ⟨rfl, c1, e1, s1, l1, -⟩
        have hx := c1.wf hx
        have hm := c1.md hm
        refine go_c0 ?_
        refine go_iload_n (q := 3) (i := 3) rfl rfl dX12_cell_16 ?_
        refine go_tswIn (off := 58) (tgt := 75) dX12_cell_17 (by decide) (by decide) (by decide) (by decide) ?_
        refine go_aload_n (q := 0) (i := 0) rfl rfl dX12_cell_75 ?_
        refine go_iconst (v := nI 1) (by decide) dX12_cell_76 ?_
        refine go_iload_n (q := 1) (i := 1) rfl rfl dX12_cell_77 ?_
        refine go_iload_n (q := 2) (i := 2) rfl rfl dX12_cell_78 ?_
        refine go_aload_n (q := 0) (i := 0) rfl rfl dX12_cell_79 ?_
        refine go_aload_n (q := 0) (i := 0) rfl rfl dX12_cell_80 ?_
        refine go_getR lf12_143 rfl hx.o hx.r59 dX12_cell_81 ?_
        refine go_bipush (v := nI 104) (by decide) dX12_cell_84 ?_
        refine go_iald (j := 104) hx.i59 (by omega) (by first | decide | omega) rfl dX12_cell_86 ?_
        rw [e1]
        refine go_callV okmX12_windIn lmX12_398 ⟨nle rfl, nle rfl⟩ hx.o ⟨by decide, rfl⟩ (ex_windIn hx hm ok) npmX12_windIn rfl (nle rfl) ⟨nle rfl, nle rfl⟩ dX12_cell_87 ?_
        rintro _ m2 ⟨rfl, cB, e2⟩
        have hx := cB.1.wf hx
        have hm := cB.1.md hm
        refine go_c1 ?_
        refine go_callV okmX12_cellTells lmX12_390 ⟨nle rfl, nle rfl⟩ hx.o ⟨by decide, rfl⟩ (ex_cellTells (k := 1) hx hm ok (Or.inl rfl) (by omega) (by omega)) npmX12_cellTells rfl (nle rfl) ⟨nle rfl, nle rfl⟩ dX12_cell_90 ?_
        rintro _ m3 ⟨rfl, cC, -⟩
        rw [e2, e1]
        refine go_c1 ?_
        refine go_iret rfl ⟨Nat.zero_le _, Nat.zero_le _⟩ dX12_cell_93 ?_
        refine ⟨?_, (c1.tr cB.1).tr cC.1⟩
        simp only [clS, hca, hw, i10, reduceIte, i20, i21, i3x.1, i3x.2.1, i3x.2.2.1, i3x.2.2.2.1, i3x.2.2.2.2.1, i3x.2.2.2.2.2.1, i3x.2.2.2.2.2.2, cpos (show 8 * b + a < 2 ^ 31 by omega), nI_clamp (show 8 * b + a < 2 ^ 31 by omega)]
      · skip
        refine go_aload_n (q := 0) (i := 0) rfl rfl dX12_cell_0 ?_
        refine go_iload_n (q := 1) (i := 1) rfl rfl dX12_cell_1 ?_
        refine go_iload_n (q := 2) (i := 2) rfl rfl dX12_cell_2 ?_
        refine go_callV okmX12_isCell lmX12_394 ⟨nle rfl, nle rfl⟩ hx.o ⟨by decide, rfl⟩ (ex_isCell hx hm) npmX12_isCell rfl (nle rfl) ⟨nle rfl, nle rfl⟩ dX12_cell_3 ?_
        rintro _ mz ⟨rfl, hz⟩
        subst mz
        rw [hic]
        refine go_c1 ?_
        refine gz_ne (by omega) (tgt := 12) dX12_cell_6 (by decide) (fun h6 => ?_) (fun h6 => by exfalso; omega)
        refine go_aload_n (q := 0) (i := 0) rfl rfl dX12_cell_12 ?_
        refine go_callV okmX12_copies lmX12_413 ⟨nle rfl, nle rfl⟩ hx.o ⟨by decide, rfl⟩ (ex_copies hx hm) npmX12_copies rfl (nle rfl) ⟨nle rfl, nle rfl⟩ dX12_cell_13 ?_
        rintro _ m1 ⟨rfl, c1, e1, s1, l1, -⟩
        have hx := c1.wf hx
        have hm := c1.md hm
        refine go_c0 ?_
        refine go_iload_n (q := 3) (i := 3) rfl rfl dX12_cell_16 ?_
        refine go_tswIn (off := 77) (tgt := 94) dX12_cell_17 (by decide) (by decide) (by decide) (by decide) ?_
        refine go_aload_n (q := 0) (i := 0) rfl rfl dX12_cell_94 ?_
        refine go_iconst (v := nI 2) (by decide) dX12_cell_95 ?_
        refine go_iload_n (q := 1) (i := 1) rfl rfl dX12_cell_96 ?_
        refine go_iload_n (q := 2) (i := 2) rfl rfl dX12_cell_97 ?_
        refine go_aload_n (q := 0) (i := 0) rfl rfl dX12_cell_98 ?_
        refine go_aload_n (q := 0) (i := 0) rfl rfl dX12_cell_99 ?_
        refine go_getR lf12_143 rfl hx.o hx.r59 dX12_cell_100 ?_
        refine go_bipush (v := nI 104) (by decide) dX12_cell_103 ?_
        refine go_iald (j := 104) hx.i59 (by omega) (by first | decide | omega) rfl dX12_cell_105 ?_
        rw [e1]
        refine go_callV okmX12_windIn lmX12_398 ⟨nle rfl, nle rfl⟩ hx.o ⟨by decide, rfl⟩ (ex_windIn hx hm ok) npmX12_windIn rfl (nle rfl) ⟨nle rfl, nle rfl⟩ dX12_cell_106 ?_
        rintro _ m2 ⟨rfl, cB, e2⟩
        have hx := cB.1.wf hx
        have hm := cB.1.md hm
        refine go_c1 ?_
        refine go_callV okmX12_cellTells lmX12_390 ⟨nle rfl, nle rfl⟩ hx.o ⟨by decide, rfl⟩ (ex_cellTells (k := 2) hx hm ok (Or.inr rfl) (by omega) (by omega)) npmX12_cellTells rfl (nle rfl) ⟨nle rfl, nle rfl⟩ dX12_cell_109 ?_
        rintro _ m3 ⟨rfl, cC, -⟩
        rw [e2, e1]
        refine go_c1 ?_
        refine go_iret rfl ⟨Nat.zero_le _, Nat.zero_le _⟩ dX12_cell_112 ?_
        refine ⟨?_, (c1.tr cB.1).tr cC.1⟩
        simp only [clS, hca, hw, i10, reduceIte, i20, i21, i3x.1, i3x.2.1, i3x.2.2.1, i3x.2.2.2.1, i3x.2.2.2.2.1, i3x.2.2.2.2.2.1, i3x.2.2.2.2.2.2, cpos (show 8 * b + a < 2 ^ 31 by omega), nI_clamp (show 8 * b + a < 2 ^ 31 by omega)]
