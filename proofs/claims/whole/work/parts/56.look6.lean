noncomputable def ovI (P : Pl) (r : Nat → Int32) (i : Nat) : Int32 := if P.ra i < fgY r (fun c => r (40 + c)) (nI i) P.wd P.rw then nI 1 else nI 0
noncomputable def ovA (P : Pl) (r : Nat → Int32) (i : Nat) : Int32 := if i < P.hd then ovI P r i else nI 0
noncomputable def orN (P : Pl) (r : Nat → Int32) : Nat → Int32
  | 0 => nI 0
  | i + 1 => if ovA P r i = nI 0 then orN P r i else orN P r i ||| (nI 1 <<< (nI i &&& 31))
theorem ov01 (P : Pl) (r : Nat → Int32) (i : Nat) : ovI P r i = nI 0 ∨ ovI P r i = nI 1 := by
  unfold ovI
  split
  · exact Or.inr rfl
  · exact Or.inl rfl
theorem orN_end {P : Pl} {r : Nat → Int32} : ∀ k, orN P r (P.hd + k) = orN P r P.hd
  | 0 => rfl
  | k + 1 => by
    show (if ovA P r (P.hd + k) = nI 0 then orN P r (P.hd + k) else _) = _
    rw [if_pos (show ovA P r (P.hd + k) = nI 0 from if_neg (by omega))]
    exact orN_end k
theorem gw_ct {P : Pl} (ok : PlOk P) {m : Me} {g : Nat} {r : Nat → Int32} (hc : CR P (gw m g) r) {h : Int32} (h1 : ¬ (-1 : Int32) = h) : ctS (gI m (g + 2)) h 40 = ctY (fun c => r (40 + c)) h P.wd P.rw :=
  ct_eq ok (fun c hq l => (gw_w hq).trans (hc.w hq l)) (fun c hq l => by rw [(gw_w hq).trans (hc.o hq l)]; exact h1)
theorem gw_fg {P : Pl} (ok : PlOk P) {m : Me} {g : Nat} {r : Nat → Int32} (hc : CR P (gw m g) r) {h : Int32} (h1 : ¬ (-1 : Int32) = h) : fgS (gI m (g + 1)) (gI m (g + 2)) h 40 = fgY r (fun c => r (40 + c)) h P.wd P.rw :=
  fg_eq ok (fun c hq l => ⟨(gw_f hq).trans (hc.f hq), (gw_w hq).trans (hc.w hq l)⟩) (fun c hq l => by rw [(gw_w hq).trans (hc.o hq l)]; exact h1)
theorem nt_c {f g : Nat → Int32} {h : Nat} (hh : h < 4) (e : ∀ k, k < 16 → f k = g k) : ∀ n, n ≤ 4 → ntS f h n = ntS g h n
  | 0, _ => rfl
  | n + 1, q => by rw [ntS, ntS, nt_c hh e n (by omega), e _ (by omega), e _ (by omega)]
noncomputable def hoS (P : Pl) (r : Nat → Int32) (h w : Int32) : Int32 := if inS h (nI 0) (nI P.hd - nI 1) = nI 0 then -100000 else if inS w (nI 0) (nI 6) = nI 0 then -100000 else if w = nI 0 then P.ra h.toNatClampNeg else if w = nI 1 then r (80 + h.toNatClampNeg) else if w = nI 2 then nI (ctY (fun c => r (40 + c)) h P.wd P.rw) else if w = nI 3 then fgY r (fun c => r (40 + c)) h P.wd P.rw else if w = nI 4 then ovI P r h.toNatClampNeg else if w = nI 5 then r (84 + h.toNatClampNeg) else ntS (fun k => r (88 + k)) h.toNatClampNeg 4
theorem i5x : (nI 5 = nI 0) = False ∧ (nI 5 = nI 1) = False ∧ (nI 5 = nI 2) = False ∧ (nI 5 = nI 3) = False ∧ (nI 5 = nI 4) = False ∧ (nI 6 = nI 0) = False ∧ (nI 6 = nI 1) = False ∧ (nI 6 = nI 2) = False ∧ (nI 6 = nI 3) = False ∧ (nI 6 = nI 4) = False ∧ (nI 6 = nI 5) = False := by
  simp only [eq_iff_iff, iff_false]; decide
set_option maxRecDepth 100000 in
set_option maxHeartbeats 4000000 in
theorem ev_isOver {m : Me} {pl dr : Nat} {P : Pl} {r : Nat → Int32} (hX : CX m.1 (gR m) pl dr) (hP : PlC m pl P) (ok : PlOk P) (hc : CR P (gw m 15) r) {i : Nat} (hi : i < P.hd) : Ev mX11_isOver [.ref 0, .int (nI i)] m (fun o m' => o = some (.int (ovI P r i)) ∧ m' = m) := by
  have hh4 := ok.2.2.1
  have hpd := hX.pd
  refine ⟨plmX11_isOver, nle rfl, ?_⟩
  refine go_aload_n (q := 0) (i := 0) rfl rfl dX11_isOver_0 ?_
  refine go_getR lf11_86 rfl hX.o hX.rp dX11_isOver_1 ?_
  refine go_iload_n (q := 1) (i := 1) rfl rfl dX11_isOver_4 ?_
  refine go_callV okmX7_hasHolding lmX11_148 ⟨nle rfl, nle rfl⟩ hX.wp.o ⟨by decide, rfl⟩ (ev_hasHolding hX.wp) npmX7_hasHolding rfl (nle rfl) ⟨nle rfl, nle rfl⟩ dX11_isOver_5 ?_
  rintro _ mz ⟨rfl, hz⟩
  subst mz
  rw [hP.hd, has_in ok.2.2.1 (by decide), in_1 hi (by omega)]
  refine go_c1 ?_
  refine gz_eq (by omega) (tgt := 35) dX11_isOver_8 (by decide) (fun h8 => by exfalso; omega) (fun h8 => ?_)
  refine go_aload_n (q := 0) (i := 0) rfl rfl dX11_isOver_11 ?_
  refine go_getR lf11_47 rfl hX.o hX.r5 dX11_isOver_12 ?_
  refine go_iload_n (q := 1) (i := 1) rfl rfl dX11_isOver_15 ?_
  refine go_callV okmX1_fogOf lmX11_163 ⟨nle rfl, nle rfl⟩ hX.w5.o ⟨by decide, rfl⟩ (ev_fogOf hX.w5) npmX1_fogOf rfl (nle rfl) ⟨nle rfl, nle rfl⟩ dX11_isOver_16 ?_
  rintro _ mz ⟨rfl, hz⟩
  subst mz
  rw [gw_fg ok hc (i1m _ (by omega))]
  refine go_c1 ?_
  refine go_aload_n (q := 0) (i := 0) rfl rfl dX11_isOver_19 ?_
  refine go_getR lf11_86 rfl hX.o hX.rp dX11_isOver_20 ?_
  refine go_getR lf11_153 rfl hX.wp.o hX.wp.r10 dX11_isOver_23 ?_
  refine go_iload_n (q := 1) (i := 1) rfl rfl dX11_isOver_26 ?_
  refine go_iald (j := i) hX.wp.i10 (by omega) (by first | decide | omega) rfl dX11_isOver_27 ?_
  rw [(hP.rs i (by omega)).1]
  refine go_icmp_le (tgt := 35) dX11_isOver_28 (by decide) (fun h28 => ?_) (fun h28 => ?_)
  · skip
    refine go_iconst (v := nI 0) (by decide) dX11_isOver_35 ?_
    refine go_zret rfl (by decide) ⟨Nat.zero_le _, Nat.zero_le _⟩ dX11_isOver_36 ?_
    refine ⟨?_, rfl⟩
    rw [show ovI P r i = nI 0 from if_neg (Int32.not_lt.mpr h28)]
  · skip
    refine go_iconst (v := nI 1) (by decide) dX11_isOver_31 ?_
    refine go_goto (tgt := 36) dX11_isOver_32 (by decide) ?_
    refine go_zret rfl (by decide) ⟨Nat.zero_le _, Nat.zero_le _⟩ dX11_isOver_36 ?_
    refine ⟨?_, rfl⟩
    rw [show ovI P r i = nI 1 from if_pos (Int32.not_le.mp h28)]
set_option maxRecDepth 100000 in
set_option maxHeartbeats 4000000 in
theorem ev_isOver0 {m : Me} {pl dr : Nat} {P : Pl} {r : Nat → Int32} (hX : CX m.1 (gR m) pl dr) (hP : PlC m pl P) (ok : PlOk P) (hc : CR P (gw m 15) r) {i : Nat} (hi : ¬ i < P.hd) (hi4 : i < 4) : Ev mX11_isOver [.ref 0, .int (nI i)] m (fun o m' => o = some (.int (nI 0)) ∧ m' = m) := by
  have hh4 := ok.2.2.1
  have hpd := hX.pd
  refine ⟨plmX11_isOver, nle rfl, ?_⟩
  refine go_aload_n (q := 0) (i := 0) rfl rfl dX11_isOver_0 ?_
  refine go_getR lf11_86 rfl hX.o hX.rp dX11_isOver_1 ?_
  refine go_iload_n (q := 1) (i := 1) rfl rfl dX11_isOver_4 ?_
  refine go_callV okmX7_hasHolding lmX11_148 ⟨nle rfl, nle rfl⟩ hX.wp.o ⟨by decide, rfl⟩ (ev_hasHolding hX.wp) npmX7_hasHolding rfl (nle rfl) ⟨nle rfl, nle rfl⟩ dX11_isOver_5 ?_
  rintro _ mz ⟨rfl, hz⟩
  subst mz
  rw [hP.hd, show hasS (nI P.hd) (nI 4) (nI i) = nI 0 from by unfold hasS; rw [if_neg (nI_pos (by omega)), if_pos (by rw [nI_leI (by omega) (by omega)]; omega)]]
  refine go_c1 ?_
  refine gz_eq (by omega) (tgt := 35) dX11_isOver_8 (by decide) (fun h8 => ?_) (fun h8 => by exfalso; omega)
  refine go_iconst (v := nI 0) (by decide) dX11_isOver_35 ?_
  refine go_zret rfl (by decide) ⟨Nat.zero_le _, Nat.zero_le _⟩ dX11_isOver_36 ?_
  exact ⟨rfl, rfl⟩
theorem ev_isOverA {m : Me} {pl dr : Nat} {P : Pl} {r : Nat → Int32} (hX : CX m.1 (gR m) pl dr) (hP : PlC m pl P) (ok : PlOk P) (hc : CR P (gw m 15) r) {i : Nat} (hi4 : i < 4) : Ev mX11_isOver [.ref 0, .int (nI i)] m (fun o m' => o = some (.int (ovA P r i)) ∧ m' = m) := by
  unfold ovA
  by_cases q : i < P.hd
  · rw [if_pos q]; exact ev_isOver hX hP ok hc q
  · rw [if_neg q]; exact ev_isOver0 hX hP ok hc q hi4
set_option maxRecDepth 100000 in
set_option maxHeartbeats 4000000 in
theorem ex_isOver {m : Me} {P : Pl} {lv : Nat} (hx : Wf12 m.1 (gR m)) (hm : MdC m P lv) (ok : PlOk P) {i : Nat} (hi : i < P.hd) : Ev mX12_isOver [.ref 274, .int (nI i)] m (fun o m' => o = some (.int (ovI P (gI m 316) i)) ∧ m' = m) := by
  have hh4 := ok.2.2.1
  have hlv := hm.lv
  refine ⟨plmX12_isOver, nle rfl, ?_⟩
  refine go_aload_n (q := 0) (i := 0) rfl rfl dX12_isOver_0 ?_
  refine go_iload_n (q := 1) (i := 1) rfl rfl dX12_isOver_1 ?_
  refine go_callV okmX12_fogOf lmX12_387 ⟨nle rfl, nle rfl⟩ hx.o ⟨by decide, rfl⟩ (ex_fogOf hx hm ok) npmX12_fogOf rfl (nle rfl) ⟨nle rfl, nle rfl⟩ dX12_isOver_2 ?_
  rintro _ mz ⟨rfl, hz⟩
  subst mz
  refine go_c1 ?_
  refine go_aload_n (q := 0) (i := 0) rfl rfl dX12_isOver_5 ?_
  refine go_getR lf12_61 rfl hx.o hx.r28 dX12_isOver_6 ?_
  refine go_iconst (v := nI 4) (by decide) dX12_isOver_9 ?_
  refine go_aload_n (q := 0) (i := 0) rfl rfl dX12_isOver_10 ?_
  refine go_getI lf12_260 rfl hx.o dX12_isOver_11 ?_
  rw [hm.li]
  refine gn_mul dX12_isOver_14 ?_
  refine go_iload_n (q := 1) (i := 1) rfl rfl dX12_isOver_15 ?_
  refine gn_add dX12_isOver_16 ?_
  refine go_iald (j := ((4 * lv) + i)) hx.i28 (by omega) (by first | decide | omega) rfl dX12_isOver_17 ?_
  rw [(hm.ra i hi).1]
  refine go_icmp_le (tgt := 25) dX12_isOver_18 (by decide) (fun h18 => ?_) (fun h18 => ?_)
  · skip
    refine go_iconst (v := nI 0) (by decide) dX12_isOver_25 ?_
    refine go_zret rfl (by decide) ⟨Nat.zero_le _, Nat.zero_le _⟩ dX12_isOver_26 ?_
    refine ⟨?_, rfl⟩
    rw [show ovI P (gI m 316) i = nI 0 from if_neg (Int32.not_lt.mpr h18)]
  · skip
    refine go_iconst (v := nI 1) (by decide) dX12_isOver_21 ?_
    refine go_goto (tgt := 26) dX12_isOver_22 (by decide) ?_
    refine go_zret rfl (by decide) ⟨Nat.zero_le _, Nat.zero_le _⟩ dX12_isOver_26 ?_
    refine ⟨?_, rfl⟩
    rw [show ovI P (gI m 316) i = nI 1 from if_pos (Int32.not_le.mp h18)]
set_option maxRecDepth 100000 in
set_option maxHeartbeats 4000000 in
theorem ex_netted {m : Me} {h : Nat} (hx : Wf12 m.1 (gR m)) (hh : h < 4) : Ev mX12_netted [.ref 274, .int (nI h)] m (fun o m' => o = some (.int (ntS (fun k => gI m 316 (88 + k)) h 4)) ∧ m' = m) := by
  refine ⟨plmX12_netted, nle rfl, ?_⟩
  have key : ∀ i, i ≤ 4 → Go mX12_netted (fun o m' => o = some (.int (ntS (fun k => gI m 316 (88 + k)) h 4)) ∧ m' = m) 4 [some (.ref 274), some (.int (nI h)), some (.int (ntS (fun k => gI m 316 (88 + k)) h i)), some (.int (nI i))] [] (m) 0 0 := by
    refine loop_up 4 ?_ ?_
    · skip
      refine go_iload_n (q := 3) (i := 3) rfl rfl dX12_netted_4 ?_
      refine go_iconst (v := nI 4) (by decide) dX12_netted_5 ?_
      refine gn_ge (by omega) (by omega) (tgt := 45) dX12_netted_6 (by decide) (fun h6 => ?_) (fun h6 => by exfalso; omega)
      refine go_iload_n (q := 2) (i := 2) rfl rfl dX12_netted_45 ?_
      refine go_iret rfl ⟨Nat.zero_le _, Nat.zero_le _⟩ dX12_netted_46 ?_
      exact ⟨rfl, rfl⟩
    · intro i hi ih
      refine go_iload_n (q := 3) (i := 3) rfl rfl dX12_netted_4 ?_
      refine go_iconst (v := nI 4) (by decide) dX12_netted_5 ?_
      refine gn_ge (by omega) (by omega) (tgt := 45) dX12_netted_6 (by decide) (fun h6 => by exfalso; omega) (fun h6 => ?_)
      refine go_iload_n (q := 2) (i := 2) rfl rfl dX12_netted_9 ?_
      refine go_aload_n (q := 0) (i := 0) rfl rfl dX12_netted_10 ?_
      refine go_getR lf12_143 rfl hx.o hx.r59 dX12_netted_11 ?_
      refine go_bipush (v := nI 88) (by decide) dX12_netted_14 ?_
      refine go_iconst (v := nI 4) (by decide) dX12_netted_16 ?_
      refine go_iload_n (q := 1) (i := 1) rfl rfl dX12_netted_17 ?_
      refine gn_mul dX12_netted_18 ?_
      refine gn_add dX12_netted_19 ?_
      refine go_iload_n (q := 3) (i := 3) rfl rfl dX12_netted_20 ?_
      refine gn_add dX12_netted_21 ?_
      refine go_iald (j := ((88 + (4 * h)) + i)) hx.i59 (by omega) (by first | decide | omega) rfl dX12_netted_22 ?_
      rw [show 88 + 4 * h + i = 88 + (h * 4 + i) by omega]
      refine go_aload_n (q := 0) (i := 0) rfl rfl dX12_netted_23 ?_
      refine go_getR lf12_143 rfl hx.o hx.r59 dX12_netted_24 ?_
      refine go_bipush (v := nI 88) (by decide) dX12_netted_27 ?_
      refine go_iconst (v := nI 4) (by decide) dX12_netted_29 ?_
      refine go_iload_n (q := 3) (i := 3) rfl rfl dX12_netted_30 ?_
      refine gn_mul dX12_netted_31 ?_
      refine gn_add dX12_netted_32 ?_
      refine go_iload_n (q := 1) (i := 1) rfl rfl dX12_netted_33 ?_
      refine gn_add dX12_netted_34 ?_
      refine go_iald (j := ((88 + (4 * i)) + h)) hx.i59 (by omega) (by first | decide | omega) rfl dX12_netted_35 ?_
      rw [show 88 + 4 * i + h = 88 + (i * 4 + h) by omega]
      refine go_isub dX12_netted_36 ?_
      refine go_iadd dX12_netted_37 ?_
      refine go_istore_n (q := 2) (i := 2) rfl dX12_netted_38 (nle rfl) (nle rfl) ?_
      refine gn_inc (i := 3) (a := i) (q := 1) rfl dX12_netted_39 (nle rfl) rfl ?_
      refine go_goto (tgt := 4) dX12_netted_42 (by decide) ?_
      exact ih
  have k0 := key 0 (Nat.zero_le _)
  refine go_iconst (v := nI 0) (by decide) dX12_netted_0 ?_
  refine go_istore_n (q := 2) (i := 2) rfl dX12_netted_1 (nle rfl) (nle rfl) ?_
  refine go_iconst (v := nI 0) (by decide) dX12_netted_2 ?_
  refine go_istore_n (q := 3) (i := 3) rfl dX12_netted_3 (nle rfl) (nle rfl) ?_
  exact k0
set_option maxRecDepth 100000 in
set_option maxHeartbeats 4000000 in
theorem ev_over {m : Me} {pl dr : Nat} {P : Pl} {r : Nat → Int32} (hX : CX m.1 (gR m) pl dr) (hP : PlC m pl P) (ok : PlOk P) (hc : CR P (gw m 15) r) : Ev mX11_over [.ref 0] m (fun o m' => o = some (.int (orN P r P.hd)) ∧ m' = m) := by
  refine ⟨plmX11_over, nle rfl, ?_⟩
  have key : ∀ i, i ≤ 4 → Go mX11_over (fun o m' => o = some (.int (orN P r P.hd)) ∧ m' = m) 4 [some (.ref 0), some (.int (orN P r i)), some (.int (nI i))] [] (m) 0 0 := by
    refine loop_up 4 ?_ ?_
    · skip
      refine go_iload_n (q := 2) (i := 2) rfl rfl dX11_over_4 ?_
      refine go_iconst (v := nI 4) (by decide) dX11_over_5 ?_
      refine gn_ge (by omega) (by omega) (tgt := 29) dX11_over_6 (by decide) (fun h6 => ?_) (fun h6 => by exfalso; omega)
      refine go_iload_n (q := 1) (i := 1) rfl rfl dX11_over_29 ?_
      refine go_iret rfl ⟨Nat.zero_le _, Nat.zero_le _⟩ dX11_over_30 ?_
      refine ⟨?_, rfl⟩
      have := ok.2.2.1
      rw [show (4 : Nat) = P.hd + (4 - P.hd) by omega, orN_end]
    · intro i hi ih
      refine go_iload_n (q := 2) (i := 2) rfl rfl dX11_over_4 ?_
      refine go_iconst (v := nI 4) (by decide) dX11_over_5 ?_
      refine gn_ge (by omega) (by omega) (tgt := 29) dX11_over_6 (by decide) (fun h6 => by exfalso; omega) (fun h6 => ?_)
      refine go_aload_n (q := 0) (i := 0) rfl rfl dX11_over_9 ?_
      refine go_iload_n (q := 2) (i := 2) rfl rfl dX11_over_10 ?_
      refine go_callV okmX11_isOver lmX11_166 ⟨nle rfl, nle rfl⟩ hX.o ⟨by decide, rfl⟩ (ev_isOverA hX hP ok hc (by omega)) npmX11_isOver rfl (nle rfl) ⟨nle rfl, nle rfl⟩ dX11_over_11 ?_
      rintro _ mz ⟨rfl, hz⟩
      subst mz
      refine go_c1 ?_
      refine go_if_eq (tgt := 23) dX11_over_14 (by decide) (fun h14 => ?_) (fun h14 => ?_)
      · skip
        refine gn_inc (i := 2) (a := i) (q := 1) rfl dX11_over_23 (nle rfl) rfl ?_
        refine go_goto (tgt := 4) dX11_over_26 (by decide) ?_
        rw [show orN P r i = orN P r (i + 1) from (if_pos (h14.trans nI_0.symm)).symm]
        exact ih
      · skip
        refine go_iload_n (q := 1) (i := 1) rfl rfl dX11_over_17 ?_
        refine go_iconst (v := nI 1) (by decide) dX11_over_18 ?_
        refine go_iload_n (q := 2) (i := 2) rfl rfl dX11_over_19 ?_
        refine go_ishl dX11_over_20 ?_
        refine go_ior dX11_over_21 ?_
        refine go_istore_n (q := 1) (i := 1) rfl dX11_over_22 (nle rfl) (nle rfl) ?_
        refine gn_inc (i := 2) (a := i) (q := 1) rfl dX11_over_23 (nle rfl) rfl ?_
        refine go_goto (tgt := 4) dX11_over_26 (by decide) ?_
        rw [show orN P r i ||| (nI 1 <<< (nI i &&& 31)) = orN P r (i + 1) from (if_neg (fun z => h14 (z.trans nI_0))).symm] 
        exact ih
  have k0 := key 0 (Nat.zero_le _)
  refine go_iconst (v := nI 0) (by decide) dX11_over_0 ?_
  refine go_istore_n (q := 1) (i := 1) rfl dX11_over_1 (nle rfl) (nle rfl) ?_
  refine go_iconst (v := nI 0) (by decide) dX11_over_2 ?_
  refine go_istore_n (q := 2) (i := 2) rfl dX11_over_3 (nle rfl) (nle rfl) ?_
  exact k0
set_option maxRecDepth 100000 in
set_option maxHeartbeats 8000000 in
theorem ex_over {m : Me} {P : Pl} {lv : Nat} (hx : Wf12 m.1 (gR m)) (hm : MdC m P lv) (ok : PlOk P) : Ev mX12_over [.ref 274] m (fun o m' => o = some (.int (orN P (cp 105 (gI m 315) (gI m 316)) P.hd)) ∧ Mo m m') := by
  refine ⟨plmX12_over, nle rfl, ?_⟩
  have hw8 := ok.1
  have hr5 := ok.2.1
  have hlv := hm.lv
  have hh4 := ok.2.2.1
  have hu6 := ok.2.2.2.1
  have key : ∀ i, i ≤ P.hd → ∀ mi : Me, Mo m mi → gI mi 316 = (cp 105 (gI m 315) (gI m 316)) → Go mX12_over (fun o m' => o = some (.int (orN P (cp 105 (gI m 315) (gI m 316)) P.hd)) ∧ Mo m m') 8 [some (.ref 274), some (.int (orN P (cp 105 (gI m 315) (gI m 316)) i)), some (.int (nI i))] [] mi 0 0 := by
    refine loop_up P.hd ?_ ?_
    · intro mi c1 ei
      have hx := c1.wf hx
      have hm := c1.md hm
      refine go_iload_n (q := 2) (i := 2) rfl rfl dX12_over_8 ?_
      refine go_aload_n (q := 0) (i := 0) rfl rfl dX12_over_9 ?_
      refine go_getR lf12_58 rfl hx.o hx.r27 dX12_over_10 ?_
      refine go_aload_n (q := 0) (i := 0) rfl rfl dX12_over_13 ?_
      refine go_getI lf12_260 rfl hx.o dX12_over_14 ?_
      rw [hm.li]
      refine go_iald (j := lv) hx.i27 (by omega) (by first | decide | omega) rfl dX12_over_17 ?_
      rw [hm.hd]
      refine gn_ge (by omega) (by omega) (tgt := 41) dX12_over_18 (by decide) (fun h18 => ?_) (fun h18 => by exfalso; omega)
      refine go_iload_n (q := 1) (i := 1) rfl rfl dX12_over_41 ?_
      refine go_iret rfl ⟨Nat.zero_le _, Nat.zero_le _⟩ dX12_over_42 ?_
      exact ⟨rfl, c1⟩
    · intro i hi ih mi c1 ei
      have hx := c1.wf hx
      have hm := c1.md hm
      refine go_iload_n (q := 2) (i := 2) rfl rfl dX12_over_8 ?_
      refine go_aload_n (q := 0) (i := 0) rfl rfl dX12_over_9 ?_
      refine go_getR lf12_58 rfl hx.o hx.r27 dX12_over_10 ?_
      refine go_aload_n (q := 0) (i := 0) rfl rfl dX12_over_13 ?_
      refine go_getI lf12_260 rfl hx.o dX12_over_14 ?_
      rw [hm.li]
      refine go_iald (j := lv) hx.i27 (by omega) (by first | decide | omega) rfl dX12_over_17 ?_
      rw [hm.hd]
      refine gn_ge (by omega) (by omega) (tgt := 41) dX12_over_18 (by decide) (fun h18 => by exfalso; omega) (fun h18 => ?_)
      refine go_aload_n (q := 0) (i := 0) rfl rfl dX12_over_21 ?_
      refine go_iload_n (q := 2) (i := 2) rfl rfl dX12_over_22 ?_
      refine go_callV okmX12_isOver lmX12_423 ⟨nle rfl, nle rfl⟩ hx.o ⟨by decide, rfl⟩ (ex_isOver hx hm ok hi) npmX12_isOver rfl (nle rfl) ⟨nle rfl, nle rfl⟩ dX12_over_23 ?_
      rintro _ mz ⟨rfl, hz⟩
      subst mz
      rw [ei, show ovI P (cp 105 (gI m 315) (gI m 316)) i = ovA P (cp 105 (gI m 315) (gI m 316)) i from (if_pos hi).symm]
      refine go_c1 ?_
      refine go_if_eq (tgt := 35) dX12_over_26 (by decide) (fun h26 => ?_) (fun h26 => ?_)
      · skip
        refine gn_inc (i := 2) (a := i) (q := 1) rfl dX12_over_35 (nle rfl) rfl ?_
        refine go_goto (tgt := 8) dX12_over_38 (by decide) ?_
        rw [show orN P (cp 105 (gI m 315) (gI m 316)) i = orN P (cp 105 (gI m 315) (gI m 316)) (i + 1) from (if_pos (h26.trans nI_0.symm)).symm]
        exact ih _ c1 ei
      · skip
        refine go_iload_n (q := 1) (i := 1) rfl rfl dX12_over_29 ?_
        refine go_iconst (v := nI 1) (by decide) dX12_over_30 ?_
        refine go_iload_n (q := 2) (i := 2) rfl rfl dX12_over_31 ?_
        refine go_ishl dX12_over_32 ?_
        refine go_ior dX12_over_33 ?_
        refine go_istore_n (q := 1) (i := 1) rfl dX12_over_34 (nle rfl) (nle rfl) ?_
        refine gn_inc (i := 2) (a := i) (q := 1) rfl dX12_over_35 (nle rfl) rfl ?_
        refine go_goto (tgt := 8) dX12_over_38 (by decide) ?_
        rw [show orN P (cp 105 (gI m 315) (gI m 316)) i ||| (nI 1 <<< (nI i &&& 31)) = orN P (cp 105 (gI m 315) (gI m 316)) (i + 1) from (if_neg (fun z => h26 (z.trans nI_0))).symm] 
        exact ih _ c1 ei
  refine go_aload_n (q := 0) (i := 0) rfl rfl dX12_over_0 ?_
  refine go_callV okmX12_copies lmX12_413 ⟨nle rfl, nle rfl⟩ hx.o ⟨by decide, rfl⟩ (ex_copies hx hm) npmX12_copies rfl (nle rfl) ⟨nle rfl, nle rfl⟩ dX12_over_1 ?_
  rintro _ m1 ⟨rfl, c1, e1, s1, l1, -⟩
  have hx := c1.wf hx
  have hm := c1.md hm
  refine go_c0 ?_
  refine go_iconst (v := nI 0) (by decide) dX12_over_4 ?_
  refine go_istore_n (q := 1) (i := 1) rfl dX12_over_5 (nle rfl) (nle rfl) ?_
  refine go_iconst (v := nI 0) (by decide) dX12_over_6 ?_
  refine go_istore_n (q := 2) (i := 2) rfl dX12_over_7 (nle rfl) (nle rfl) ?_
  exact key 0 (Nat.zero_le _) m1 c1 e1
set_option maxRecDepth 100000 in
set_option maxHeartbeats 8000000 in
theorem ev_holding {m : Me} {pl dr M : Nat} {P : Pl} {r : Nat → Int32} (hX : CX m.1 (gR m) pl dr) (hP : PlC m pl P) (ok : PlOk P) (hM : M < 2 ^ 18) (hr : RoOk P M r) (hc : CR P (gw m 15) r) {h w : Int32} : Ev mX11_holding [.ref 0, .int h, .int w] m (fun o m' => o = some (.int (hoS P r h w)) ∧ Ch (LkS pl) m m') := by
  refine ⟨plmX11_holding, nle rfl, ?_⟩
  have hw8 := ok.1
  have hr5 := ok.2.1
  have hpd := hX.pd
  have hh4 := ok.2.2.1
  have hu6 := ok.2.2.2.1
  rcases hd_c (n := P.hd) (by omega) h with hh | ⟨i, hi, rfl, hh⟩
  · skip
    refine go_aload_n (q := 0) (i := 0) rfl rfl dX11_holding_0 ?_
    refine go_getR lf11_86 rfl hX.o hX.rp dX11_holding_1 ?_
    refine go_iload_n (q := 1) (i := 1) rfl rfl dX11_holding_4 ?_
    refine go_callV okmX7_hasHolding lmX11_148 ⟨nle rfl, nle rfl⟩ hX.wp.o ⟨by decide, rfl⟩ (ev_hasHolding hX.wp) npmX7_hasHolding rfl (nle rfl) ⟨nle rfl, nle rfl⟩ dX11_holding_5 ?_
    rintro _ mz ⟨rfl, hz⟩
    subst mz
    rw [hP.hd, has_in ok.2.2.1 (by decide), hh]
    refine go_c1 ?_
    refine gz_ne (by omega) (tgt := 14) dX11_holding_8 (by decide) (fun h8 => by exfalso; omega) (fun h8 => ?_)
    refine go_ldc (wg4 81 rfl rfl) dX11_holding_11 ?_
    refine go_iret rfl ⟨Nat.zero_le _, Nat.zero_le _⟩ dX11_holding_13 ?_
    refine ⟨?_, Ch.rf⟩
    simp only [hoS, hh, i10, reduceIte]
  · skip
    rcases in_c w (N := 6) (by decide) with hw | ⟨k, hk, rfl, hw⟩
    · skip
      refine go_aload_n (q := 0) (i := 0) rfl rfl dX11_holding_0 ?_
      refine go_getR lf11_86 rfl hX.o hX.rp dX11_holding_1 ?_
      refine go_iload_n (q := 1) (i := 1) rfl rfl dX11_holding_4 ?_
      refine go_callV okmX7_hasHolding lmX11_148 ⟨nle rfl, nle rfl⟩ hX.wp.o ⟨by decide, rfl⟩ (ev_hasHolding hX.wp) npmX7_hasHolding rfl (nle rfl) ⟨nle rfl, nle rfl⟩ dX11_holding_5 ?_
      rintro _ mz ⟨rfl, hz⟩
      subst mz
      rw [hP.hd, has_in ok.2.2.1 (by decide), hh]
      refine go_c1 ?_
      refine gz_ne (by omega) (tgt := 14) dX11_holding_8 (by decide) (fun h8 => ?_) (fun h8 => by exfalso; omega)
      refine go_iload_n (q := 2) (i := 2) rfl rfl dX11_holding_14 ?_
      refine go_tswOut (tgt := 127) dX11_holding_15 (in_out (by decide) hw) (by decide) ?_
      refine go_ldc (wg4 81 rfl rfl) dX11_holding_127 ?_
      refine go_iret rfl ⟨Nat.zero_le _, Nat.zero_le _⟩ dX11_holding_129 ?_
      refine ⟨?_, Ch.rf⟩
      simp only [hoS, hh, hw, i10, reduceIte]
    · skip
      rcases (show k = 0 ∨ k = 1 ∨ k = 2 ∨ k = 3 ∨ k = 4 ∨ k = 5 ∨ k = 6 by omega) with rfl | rfl | rfl | rfl | rfl | rfl | rfl
      · skip
        refine go_aload_n (q := 0) (i := 0) rfl rfl dX11_holding_0 ?_
        refine go_getR lf11_86 rfl hX.o hX.rp dX11_holding_1 ?_
        refine go_iload_n (q := 1) (i := 1) rfl rfl dX11_holding_4 ?_
        refine go_callV okmX7_hasHolding lmX11_148 ⟨nle rfl, nle rfl⟩ hX.wp.o ⟨by decide, rfl⟩ (ev_hasHolding hX.wp) npmX7_hasHolding rfl (nle rfl) ⟨nle rfl, nle rfl⟩ dX11_holding_5 ?_
        rintro _ mz ⟨rfl, hz⟩
        subst mz
        rw [hP.hd, has_in ok.2.2.1 (by decide), hh]
        refine go_c1 ?_
        refine gz_ne (by omega) (tgt := 14) dX11_holding_8 (by decide) (fun h8 => ?_) (fun h8 => by exfalso; omega)
        refine go_iload_n (q := 2) (i := 2) rfl rfl dX11_holding_14 ?_
        refine go_tswIn (off := 41) (tgt := 56) dX11_holding_15 (by decide) (by decide) (by decide) (by decide) ?_
        refine go_aload_n (q := 0) (i := 0) rfl rfl dX11_holding_56 ?_
        refine go_getR lf11_86 rfl hX.o hX.rp dX11_holding_57 ?_
        refine go_getR lf11_153 rfl hX.wp.o hX.wp.r10 dX11_holding_60 ?_
        refine go_iload_n (q := 1) (i := 1) rfl rfl dX11_holding_63 ?_
        refine go_iald (j := i) hX.wp.i10 (by omega) (by first | decide | omega) rfl dX11_holding_64 ?_
        rw [(hP.rs i (by omega)).1]
        refine go_iret rfl ⟨Nat.zero_le _, Nat.zero_le _⟩ dX11_holding_65 ?_
        refine ⟨?_, Ch.rf⟩
        simp only [hoS, hh, hw, i10, reduceIte, i20, i21, i3x.1, i3x.2.1, i3x.2.2.1, i3x.2.2.2.1, i3x.2.2.2.2.1, i3x.2.2.2.2.2.1, i3x.2.2.2.2.2.2, i5x.1, i5x.2.1, i5x.2.2.1, i5x.2.2.2.1, i5x.2.2.2.2.1, i5x.2.2.2.2.2.1, i5x.2.2.2.2.2.2.1, i5x.2.2.2.2.2.2.2.1, i5x.2.2.2.2.2.2.2.2.1, i5x.2.2.2.2.2.2.2.2.2.1, i5x.2.2.2.2.2.2.2.2.2.2, nI_clamp (show i < 2 ^ 31 by omega)]
      · skip
        refine go_aload_n (q := 0) (i := 0) rfl rfl dX11_holding_0 ?_
        refine go_getR lf11_86 rfl hX.o hX.rp dX11_holding_1 ?_
        refine go_iload_n (q := 1) (i := 1) rfl rfl dX11_holding_4 ?_
        refine go_callV okmX7_hasHolding lmX11_148 ⟨nle rfl, nle rfl⟩ hX.wp.o ⟨by decide, rfl⟩ (ev_hasHolding hX.wp) npmX7_hasHolding rfl (nle rfl) ⟨nle rfl, nle rfl⟩ dX11_holding_5 ?_
        rintro _ mz ⟨rfl, hz⟩
        subst mz
        rw [hP.hd, has_in ok.2.2.1 (by decide), hh]
        refine go_c1 ?_
        refine gz_ne (by omega) (tgt := 14) dX11_holding_8 (by decide) (fun h8 => ?_) (fun h8 => by exfalso; omega)
        refine go_iload_n (q := 2) (i := 2) rfl rfl dX11_holding_14 ?_
        refine go_tswIn (off := 51) (tgt := 66) dX11_holding_15 (by decide) (by decide) (by decide) (by decide) ?_
        refine go_aload_n (q := 0) (i := 0) rfl rfl dX11_holding_66 ?_
        refine go_getR lf11_47 rfl hX.o hX.r5 dX11_holding_67 ?_
        refine go_getR lf11_156 rfl hX.w5.o hX.w5.r3 dX11_holding_70 ?_
        refine go_iload_n (q := 1) (i := 1) rfl rfl dX11_holding_73 ?_
        refine go_iald (j := i) hX.w5.i3 (by omega) (by first | decide | omega) rfl dX11_holding_74 ?_
        rw [show gI m (15 + 3) i = r (80 + i) from (gw_s (by omega)).trans (hc.s (by omega) (by omega))]
        refine go_iret rfl ⟨Nat.zero_le _, Nat.zero_le _⟩ dX11_holding_75 ?_
        refine ⟨?_, Ch.rf⟩
        simp only [hoS, hh, hw, i10, reduceIte, i20, i21, i3x.1, i3x.2.1, i3x.2.2.1, i3x.2.2.2.1, i3x.2.2.2.2.1, i3x.2.2.2.2.2.1, i3x.2.2.2.2.2.2, i5x.1, i5x.2.1, i5x.2.2.1, i5x.2.2.2.1, i5x.2.2.2.2.1, i5x.2.2.2.2.2.1, i5x.2.2.2.2.2.2.1, i5x.2.2.2.2.2.2.2.1, i5x.2.2.2.2.2.2.2.2.1, i5x.2.2.2.2.2.2.2.2.2.1, i5x.2.2.2.2.2.2.2.2.2.2, nI_clamp (show i < 2 ^ 31 by omega)]
      · skip
        refine go_aload_n (q := 0) (i := 0) rfl rfl dX11_holding_0 ?_
        refine go_getR lf11_86 rfl hX.o hX.rp dX11_holding_1 ?_
        refine go_iload_n (q := 1) (i := 1) rfl rfl dX11_holding_4 ?_
        refine go_callV okmX7_hasHolding lmX11_148 ⟨nle rfl, nle rfl⟩ hX.wp.o ⟨by decide, rfl⟩ (ev_hasHolding hX.wp) npmX7_hasHolding rfl (nle rfl) ⟨nle rfl, nle rfl⟩ dX11_holding_5 ?_
        rintro _ mz ⟨rfl, hz⟩
        subst mz
        rw [hP.hd, has_in ok.2.2.1 (by decide), hh]
        refine go_c1 ?_
        refine gz_ne (by omega) (tgt := 14) dX11_holding_8 (by decide) (fun h8 => ?_) (fun h8 => by exfalso; omega)
        refine go_iload_n (q := 2) (i := 2) rfl rfl dX11_holding_14 ?_
        refine go_tswIn (off := 61) (tgt := 76) dX11_holding_15 (by decide) (by decide) (by decide) (by decide) ?_
        refine go_aload_n (q := 0) (i := 0) rfl rfl dX11_holding_76 ?_
        refine go_getR lf11_47 rfl hX.o hX.r5 dX11_holding_77 ?_
        refine go_iload_n (q := 1) (i := 1) rfl rfl dX11_holding_80 ?_
        refine go_callV okmX1_cellsOf lmX11_159 ⟨nle rfl, nle rfl⟩ hX.w5.o ⟨by decide, rfl⟩ (ev_cellsOf hX.w5) npmX1_cellsOf rfl (nle rfl) ⟨nle rfl, nle rfl⟩ dX11_holding_81 ?_
        rintro _ mz ⟨rfl, hz⟩
        subst mz
        rw [gw_ct ok hc (i1m _ (by omega))]
        refine go_c1 ?_
        refine go_iret rfl ⟨Nat.zero_le _, Nat.zero_le _⟩ dX11_holding_84 ?_
        refine ⟨?_, Ch.rf⟩
        simp only [hoS, hh, hw, i10, reduceIte, i20, i21, i3x.1, i3x.2.1, i3x.2.2.1, i3x.2.2.2.1, i3x.2.2.2.2.1, i3x.2.2.2.2.2.1, i3x.2.2.2.2.2.2, i5x.1, i5x.2.1, i5x.2.2.1, i5x.2.2.2.1, i5x.2.2.2.2.1, i5x.2.2.2.2.2.1, i5x.2.2.2.2.2.2.1, i5x.2.2.2.2.2.2.2.1, i5x.2.2.2.2.2.2.2.2.1, i5x.2.2.2.2.2.2.2.2.2.1, i5x.2.2.2.2.2.2.2.2.2.2, nI_clamp (show i < 2 ^ 31 by omega)]
      · skip
        refine go_aload_n (q := 0) (i := 0) rfl rfl dX11_holding_0 ?_
        refine go_getR lf11_86 rfl hX.o hX.rp dX11_holding_1 ?_
        refine go_iload_n (q := 1) (i := 1) rfl rfl dX11_holding_4 ?_
        refine go_callV okmX7_hasHolding lmX11_148 ⟨nle rfl, nle rfl⟩ hX.wp.o ⟨by decide, rfl⟩ (ev_hasHolding hX.wp) npmX7_hasHolding rfl (nle rfl) ⟨nle rfl, nle rfl⟩ dX11_holding_5 ?_
        rintro _ mz ⟨rfl, hz⟩
        subst mz
        rw [hP.hd, has_in ok.2.2.1 (by decide), hh]
        refine go_c1 ?_
        refine gz_ne (by omega) (tgt := 14) dX11_holding_8 (by decide) (fun h8 => ?_) (fun h8 => by exfalso; omega)
        refine go_iload_n (q := 2) (i := 2) rfl rfl dX11_holding_14 ?_
        refine go_tswIn (off := 70) (tgt := 85) dX11_holding_15 (by decide) (by decide) (by decide) (by decide) ?_
        refine go_aload_n (q := 0) (i := 0) rfl rfl dX11_holding_85 ?_
        refine go_getR lf11_47 rfl hX.o hX.r5 dX11_holding_86 ?_
        refine go_iload_n (q := 1) (i := 1) rfl rfl dX11_holding_89 ?_
        refine go_callV okmX1_fogOf lmX11_163 ⟨nle rfl, nle rfl⟩ hX.w5.o ⟨by decide, rfl⟩ (ev_fogOf hX.w5) npmX1_fogOf rfl (nle rfl) ⟨nle rfl, nle rfl⟩ dX11_holding_90 ?_
        rintro _ mz ⟨rfl, hz⟩
        subst mz
        rw [gw_fg ok hc (i1m _ (by omega))]
        refine go_c1 ?_
        refine go_iret rfl ⟨Nat.zero_le _, Nat.zero_le _⟩ dX11_holding_93 ?_
        refine ⟨?_, Ch.rf⟩
        simp only [hoS, hh, hw, i10, reduceIte, i20, i21, i3x.1, i3x.2.1, i3x.2.2.1, i3x.2.2.2.1, i3x.2.2.2.2.1, i3x.2.2.2.2.2.1, i3x.2.2.2.2.2.2, i5x.1, i5x.2.1, i5x.2.2.1, i5x.2.2.2.1, i5x.2.2.2.2.1, i5x.2.2.2.2.2.1, i5x.2.2.2.2.2.2.1, i5x.2.2.2.2.2.2.2.1, i5x.2.2.2.2.2.2.2.2.1, i5x.2.2.2.2.2.2.2.2.2.1, i5x.2.2.2.2.2.2.2.2.2.2, nI_clamp (show i < 2 ^ 31 by omega)]
      · skip
        refine go_aload_n (q := 0) (i := 0) rfl rfl dX11_holding_0 ?_
        refine go_getR lf11_86 rfl hX.o hX.rp dX11_holding_1 ?_
        refine go_iload_n (q := 1) (i := 1) rfl rfl dX11_holding_4 ?_
        refine go_callV okmX7_hasHolding lmX11_148 ⟨nle rfl, nle rfl⟩ hX.wp.o ⟨by decide, rfl⟩ (ev_hasHolding hX.wp) npmX7_hasHolding rfl (nle rfl) ⟨nle rfl, nle rfl⟩ dX11_holding_5 ?_
        rintro _ mz ⟨rfl, hz⟩
        subst mz
        rw [hP.hd, has_in ok.2.2.1 (by decide), hh]
        refine go_c1 ?_
        refine gz_ne (by omega) (tgt := 14) dX11_holding_8 (by decide) (fun h8 => ?_) (fun h8 => by exfalso; omega)
        refine go_iload_n (q := 2) (i := 2) rfl rfl dX11_holding_14 ?_
        refine go_tswIn (off := 79) (tgt := 94) dX11_holding_15 (by decide) (by decide) (by decide) (by decide) ?_
        refine go_aload_n (q := 0) (i := 0) rfl rfl dX11_holding_94 ?_
        refine go_iload_n (q := 1) (i := 1) rfl rfl dX11_holding_95 ?_
        refine go_callV okmX11_isOver lmX11_166 ⟨nle rfl, nle rfl⟩ hX.o ⟨by decide, rfl⟩ (ev_isOver hX hP ok hc hi) npmX11_isOver rfl (nle rfl) ⟨nle rfl, nle rfl⟩ dX11_holding_96 ?_
        rintro _ mz ⟨rfl, hz⟩
        subst mz
        refine go_c1 ?_
        refine go_if_eq (tgt := 106) dX11_holding_99 (by decide) (fun h99 => ?_) (fun h99 => ?_)
        · skip
          refine go_iconst (v := nI 0) (by decide) dX11_holding_106 ?_
          refine go_iret rfl ⟨Nat.zero_le _, Nat.zero_le _⟩ dX11_holding_107 ?_
          refine ⟨?_, Ch.rf⟩
          simp only [hoS, hh, hw, i10, reduceIte, i20, i21, i3x.1, i3x.2.1, i3x.2.2.1, i3x.2.2.2.1, i3x.2.2.2.2.1, i3x.2.2.2.2.2.1, i3x.2.2.2.2.2.2, i5x.1, i5x.2.1, i5x.2.2.1, i5x.2.2.2.1, i5x.2.2.2.2.1, i5x.2.2.2.2.2.1, i5x.2.2.2.2.2.2.1, i5x.2.2.2.2.2.2.2.1, i5x.2.2.2.2.2.2.2.2.1, i5x.2.2.2.2.2.2.2.2.2.1, i5x.2.2.2.2.2.2.2.2.2.2, nI_clamp (show i < 2 ^ 31 by omega)]
          rw [show ovI _ _ _ = nI 0 from h99.trans nI_0.symm]
        · skip
          refine go_iconst (v := nI 1) (by decide) dX11_holding_102 ?_
          refine go_goto (tgt := 107) dX11_holding_103 (by decide) ?_
          refine go_iret rfl ⟨Nat.zero_le _, Nat.zero_le _⟩ dX11_holding_107 ?_
          refine ⟨?_, Ch.rf⟩
          simp only [hoS, hh, hw, i10, reduceIte, i20, i21, i3x.1, i3x.2.1, i3x.2.2.1, i3x.2.2.2.1, i3x.2.2.2.2.1, i3x.2.2.2.2.2.1, i3x.2.2.2.2.2.2, i5x.1, i5x.2.1, i5x.2.2.1, i5x.2.2.2.1, i5x.2.2.2.2.1, i5x.2.2.2.2.2.1, i5x.2.2.2.2.2.2.1, i5x.2.2.2.2.2.2.2.1, i5x.2.2.2.2.2.2.2.2.1, i5x.2.2.2.2.2.2.2.2.2.1, i5x.2.2.2.2.2.2.2.2.2.2, nI_clamp (show i < 2 ^ 31 by omega)]
          rw [is_1 (ov01 _ _ _) (fun z => h99 (z.trans nI_0))]
      · skip
        refine go_aload_n (q := 0) (i := 0) rfl rfl dX11_holding_0 ?_
        refine go_getR lf11_86 rfl hX.o hX.rp dX11_holding_1 ?_
        refine go_iload_n (q := 1) (i := 1) rfl rfl dX11_holding_4 ?_
        refine go_callV okmX7_hasHolding lmX11_148 ⟨nle rfl, nle rfl⟩ hX.wp.o ⟨by decide, rfl⟩ (ev_hasHolding hX.wp) npmX7_hasHolding rfl (nle rfl) ⟨nle rfl, nle rfl⟩ dX11_holding_5 ?_
        rintro _ mz ⟨rfl, hz⟩
        subst mz
        rw [hP.hd, has_in ok.2.2.1 (by decide), hh]
        refine go_c1 ?_
        refine gz_ne (by omega) (tgt := 14) dX11_holding_8 (by decide) (fun h8 => ?_) (fun h8 => by exfalso; omega)
        refine go_iload_n (q := 2) (i := 2) rfl rfl dX11_holding_14 ?_
        refine go_tswIn (off := 93) (tgt := 108) dX11_holding_15 (by decide) (by decide) (by decide) (by decide) ?_
        refine go_aload_n (q := 0) (i := 0) rfl rfl dX11_holding_108 ?_
        refine go_getR lf11_47 rfl hX.o hX.r5 dX11_holding_109 ?_
        refine go_getR lf11_169 rfl hX.w5.o hX.w5.r4 dX11_holding_112 ?_
        refine go_iload_n (q := 1) (i := 1) rfl rfl dX11_holding_115 ?_
        refine go_iald (j := i) hX.w5.i4 (by omega) (by first | decide | omega) rfl dX11_holding_116 ?_
        rw [show gI m (15 + 4) i = r (84 + i) from (gw_d (by omega)).trans (hc.s (by omega) (by omega))]
        refine go_iret rfl ⟨Nat.zero_le _, Nat.zero_le _⟩ dX11_holding_117 ?_
        refine ⟨?_, Ch.rf⟩
        simp only [hoS, hh, hw, i10, reduceIte, i20, i21, i3x.1, i3x.2.1, i3x.2.2.1, i3x.2.2.2.1, i3x.2.2.2.2.1, i3x.2.2.2.2.2.1, i3x.2.2.2.2.2.2, i5x.1, i5x.2.1, i5x.2.2.1, i5x.2.2.2.1, i5x.2.2.2.2.1, i5x.2.2.2.2.2.1, i5x.2.2.2.2.2.2.1, i5x.2.2.2.2.2.2.2.1, i5x.2.2.2.2.2.2.2.2.1, i5x.2.2.2.2.2.2.2.2.2.1, i5x.2.2.2.2.2.2.2.2.2.2, nI_clamp (show i < 2 ^ 31 by omega)]
      · skip
        refine go_aload_n (q := 0) (i := 0) rfl rfl dX11_holding_0 ?_
        refine go_getR lf11_86 rfl hX.o hX.rp dX11_holding_1 ?_
        refine go_iload_n (q := 1) (i := 1) rfl rfl dX11_holding_4 ?_
        refine go_callV okmX7_hasHolding lmX11_148 ⟨nle rfl, nle rfl⟩ hX.wp.o ⟨by decide, rfl⟩ (ev_hasHolding hX.wp) npmX7_hasHolding rfl (nle rfl) ⟨nle rfl, nle rfl⟩ dX11_holding_5 ?_
        rintro _ mz ⟨rfl, hz⟩
        subst mz
        rw [hP.hd, has_in ok.2.2.1 (by decide), hh]
        refine go_c1 ?_
        refine gz_ne (by omega) (tgt := 14) dX11_holding_8 (by decide) (fun h8 => ?_) (fun h8 => by exfalso; omega)
        refine go_iload_n (q := 2) (i := 2) rfl rfl dX11_holding_14 ?_
        refine go_tswIn (off := 103) (tgt := 118) dX11_holding_15 (by decide) (by decide) (by decide) (by decide) ?_
        refine go_aload_n (q := 0) (i := 0) rfl rfl dX11_holding_118 ?_
        refine go_getR lf11_47 rfl hX.o hX.r5 dX11_holding_119 ?_
        refine go_iload_n (q := 1) (i := 1) rfl rfl dX11_holding_122 ?_
        refine go_callV okmX1_netted lmX11_172 ⟨nle rfl, nle rfl⟩ hX.w5.o ⟨by decide, rfl⟩ (ev_netted hX.w5 (by omega)) npmX1_netted rfl (nle rfl) ⟨nle rfl, nle rfl⟩ dX11_holding_123 ?_
        rintro _ mz ⟨rfl, hz⟩
        subst mz
        rw [nt_c (g := fun k => r (88 + k)) (by omega) (fun k hk => (gw_l (m := m) (g := 15) hk).trans (hc.s (by omega) (by omega))) 4 (by decide)]
        refine go_c1 ?_
        refine go_iret rfl ⟨Nat.zero_le _, Nat.zero_le _⟩ dX11_holding_126 ?_
        refine ⟨?_, Ch.rf⟩
        simp only [hoS, hh, hw, i10, reduceIte, i20, i21, i3x.1, i3x.2.1, i3x.2.2.1, i3x.2.2.2.1, i3x.2.2.2.2.1, i3x.2.2.2.2.2.1, i3x.2.2.2.2.2.2, i5x.1, i5x.2.1, i5x.2.2.1, i5x.2.2.2.1, i5x.2.2.2.2.1, i5x.2.2.2.2.2.1, i5x.2.2.2.2.2.2.1, i5x.2.2.2.2.2.2.2.1, i5x.2.2.2.2.2.2.2.2.1, i5x.2.2.2.2.2.2.2.2.2.1, i5x.2.2.2.2.2.2.2.2.2.2, nI_clamp (show i < 2 ^ 31 by omega)]
set_option maxRecDepth 100000 in
set_option maxHeartbeats 8000000 in
theorem ex_holding {m : Me} {P : Pl} {lv : Nat} (hx : Wf12 m.1 (gR m)) (hm : MdC m P lv) (ok : PlOk P) {h w : Int32} : Ev mX12_holding [.ref 274, .int h, .int w] m (fun o m' => o = some (.int (hoS P (cp 105 (gI m 315) (gI m 316)) h w)) ∧ Mo m m') := by
  refine ⟨plmX12_holding, nle rfl, ?_⟩
  have hw8 := ok.1
  have hr5 := ok.2.1
  have hlv := hm.lv
  have hh4 := ok.2.2.1
  have hu6 := ok.2.2.2.1
  rcases hd_c (n := P.hd) (by omega) h with hh | ⟨i, hi, rfl, hh⟩
  · skip
    refine go_aload_n (q := 0) (i := 0) rfl rfl dX12_holding_0 ?_
    refine go_iload_n (q := 1) (i := 1) rfl rfl dX12_holding_1 ?_
    refine go_callV okmX12_isHolding lmX12_416 ⟨nle rfl, nle rfl⟩ hx.o ⟨by decide, rfl⟩ (ex_isHolding hx hm) npmX12_isHolding rfl (nle rfl) ⟨nle rfl, nle rfl⟩ dX12_holding_2 ?_
    rintro _ mz ⟨rfl, hz⟩
    subst mz
    rw [hh]
    refine go_c1 ?_
    refine gz_ne (by omega) (tgt := 12) dX12_holding_5 (by decide) (fun h5 => by exfalso; omega) (fun h5 => ?_)
    refine go_ldcw (wg7 144 rfl rfl) dX12_holding_8 ?_
    refine go_iret rfl ⟨Nat.zero_le _, Nat.zero_le _⟩ dX12_holding_11 ?_
    refine ⟨?_, Mo.rf⟩
    simp only [hoS, hh, i10, reduceIte]
  · skip
    rcases in_c w (N := 6) (by decide) with hw | ⟨k, hk, rfl, hw⟩
    · skip
      refine go_aload_n (q := 0) (i := 0) rfl rfl dX12_holding_0 ?_
      refine go_iload_n (q := 1) (i := 1) rfl rfl dX12_holding_1 ?_
      refine go_callV okmX12_isHolding lmX12_416 ⟨nle rfl, nle rfl⟩ hx.o ⟨by decide, rfl⟩ (ex_isHolding hx hm) npmX12_isHolding rfl (nle rfl) ⟨nle rfl, nle rfl⟩ dX12_holding_2 ?_
      rintro _ mz ⟨rfl, hz⟩
      subst mz
      rw [hh]
      refine go_c1 ?_
      refine gz_ne (by omega) (tgt := 12) dX12_holding_5 (by decide) (fun h5 => ?_) (fun h5 => by exfalso; omega)
      refine go_aload_n (q := 0) (i := 0) rfl rfl dX12_holding_12 ?_
      refine go_callV okmX12_copies lmX12_413 ⟨nle rfl, nle rfl⟩ hx.o ⟨by decide, rfl⟩ (ex_copies hx hm) npmX12_copies rfl (nle rfl) ⟨nle rfl, nle rfl⟩ dX12_holding_13 ?_
      rintro _ m1 ⟨rfl, c1, e1, s1, l1, -⟩
      have hx := c1.wf hx
      have hm := c1.md hm
      refine go_c0 ?_
      refine go_iload_n (q := 2) (i := 2) rfl rfl dX12_holding_16 ?_
      refine go_tswOut (tgt := 126) dX12_holding_17 (in_out (by decide) hw) (by decide) ?_
      refine go_ldcw (wg7 144 rfl rfl) dX12_holding_126 ?_
      refine go_iret rfl ⟨Nat.zero_le _, Nat.zero_le _⟩ dX12_holding_129 ?_
      refine ⟨?_, c1⟩
      simp only [hoS, hh, hw, i10, reduceIte]
    · skip
      rcases (show k = 0 ∨ k = 1 ∨ k = 2 ∨ k = 3 ∨ k = 4 ∨ k = 5 ∨ k = 6 by omega) with rfl | rfl | rfl | rfl | rfl | rfl | rfl
      · skip
        refine go_aload_n (q := 0) (i := 0) rfl rfl dX12_holding_0 ?_
        refine go_iload_n (q := 1) (i := 1) rfl rfl dX12_holding_1 ?_
        refine go_callV okmX12_isHolding lmX12_416 ⟨nle rfl, nle rfl⟩ hx.o ⟨by decide, rfl⟩ (ex_isHolding hx hm) npmX12_isHolding rfl (nle rfl) ⟨nle rfl, nle rfl⟩ dX12_holding_2 ?_
        rintro _ mz ⟨rfl, hz⟩
        subst mz
        rw [hh]
        refine go_c1 ?_
        refine gz_ne (by omega) (tgt := 12) dX12_holding_5 (by decide) (fun h5 => ?_) (fun h5 => by exfalso; omega)
        refine go_aload_n (q := 0) (i := 0) rfl rfl dX12_holding_12 ?_
        refine go_callV okmX12_copies lmX12_413 ⟨nle rfl, nle rfl⟩ hx.o ⟨by decide, rfl⟩ (ex_copies hx hm) npmX12_copies rfl (nle rfl) ⟨nle rfl, nle rfl⟩ dX12_holding_13 ?_
        rintro _ m1 ⟨rfl, c1, e1, s1, l1, -⟩
        have hx := c1.wf hx
        have hm := c1.md hm
        refine go_c0 ?_
        refine go_iload_n (q := 2) (i := 2) rfl rfl dX12_holding_16 ?_
        refine go_tswIn (off := 43) (tgt := 60) dX12_holding_17 (by decide) (by decide) (by decide) (by decide) ?_
        refine go_aload_n (q := 0) (i := 0) rfl rfl dX12_holding_60 ?_
        refine go_getR lf12_61 rfl hx.o hx.r28 dX12_holding_61 ?_
        refine go_iconst (v := nI 4) (by decide) dX12_holding_64 ?_
        refine go_aload_n (q := 0) (i := 0) rfl rfl dX12_holding_65 ?_
        refine go_getI lf12_260 rfl hx.o dX12_holding_66 ?_
        rw [hm.li]
        refine gn_mul dX12_holding_69 ?_
        refine go_iload_n (q := 1) (i := 1) rfl rfl dX12_holding_70 ?_
        refine gn_add dX12_holding_71 ?_
        refine go_iald (j := ((4 * lv) + i)) hx.i28 (by omega) (by first | decide | omega) rfl dX12_holding_72 ?_
        rw [(hm.ra i hi).1]
        refine go_iret rfl ⟨Nat.zero_le _, Nat.zero_le _⟩ dX12_holding_73 ?_
        refine ⟨?_, c1⟩
        simp only [hoS, hh, hw, i10, reduceIte, i20, i21, i3x.1, i3x.2.1, i3x.2.2.1, i3x.2.2.2.1, i3x.2.2.2.2.1, i3x.2.2.2.2.2.1, i3x.2.2.2.2.2.2, i5x.1, i5x.2.1, i5x.2.2.1, i5x.2.2.2.1, i5x.2.2.2.2.1, i5x.2.2.2.2.2.1, i5x.2.2.2.2.2.2.1, i5x.2.2.2.2.2.2.2.1, i5x.2.2.2.2.2.2.2.2.1, i5x.2.2.2.2.2.2.2.2.2.1, i5x.2.2.2.2.2.2.2.2.2.2, nI_clamp (show i < 2 ^ 31 by omega)]
      · skip
        refine go_aload_n (q := 0) (i := 0) rfl rfl dX12_holding_0 ?_
        refine go_iload_n (q := 1) (i := 1) rfl rfl dX12_holding_1 ?_
        refine go_callV okmX12_isHolding lmX12_416 ⟨nle rfl, nle rfl⟩ hx.o ⟨by decide, rfl⟩ (ex_isHolding hx hm) npmX12_isHolding rfl (nle rfl) ⟨nle rfl, nle rfl⟩ dX12_holding_2 ?_
        rintro _ mz ⟨rfl, hz⟩
        subst mz
        rw [hh]
        refine go_c1 ?_
        refine gz_ne (by omega) (tgt := 12) dX12_holding_5 (by decide) (fun h5 => ?_) (fun h5 => by exfalso; omega)
        refine go_aload_n (q := 0) (i := 0) rfl rfl dX12_holding_12 ?_
        refine go_callV okmX12_copies lmX12_413 ⟨nle rfl, nle rfl⟩ hx.o ⟨by decide, rfl⟩ (ex_copies hx hm) npmX12_copies rfl (nle rfl) ⟨nle rfl, nle rfl⟩ dX12_holding_13 ?_
        rintro _ m1 ⟨rfl, c1, e1, s1, l1, -⟩
        have hx := c1.wf hx
        have hm := c1.md hm
        refine go_c0 ?_
        refine go_iload_n (q := 2) (i := 2) rfl rfl dX12_holding_16 ?_
        refine go_tswIn (off := 57) (tgt := 74) dX12_holding_17 (by decide) (by decide) (by decide) (by decide) ?_
        refine go_aload_n (q := 0) (i := 0) rfl rfl dX12_holding_74 ?_
        refine go_getR lf12_143 rfl hx.o hx.r59 dX12_holding_75 ?_
        refine go_bipush (v := nI 80) (by decide) dX12_holding_78 ?_
        refine go_iload_n (q := 1) (i := 1) rfl rfl dX12_holding_80 ?_
        refine gn_add dX12_holding_81 ?_
        refine go_iald (j := (80 + i)) hx.i59 (by omega) (by first | decide | omega) rfl dX12_holding_82 ?_
        rw [e1]
        refine go_iret rfl ⟨Nat.zero_le _, Nat.zero_le _⟩ dX12_holding_83 ?_
        refine ⟨?_, c1⟩
        simp only [hoS, hh, hw, i10, reduceIte, i20, i21, i3x.1, i3x.2.1, i3x.2.2.1, i3x.2.2.2.1, i3x.2.2.2.2.1, i3x.2.2.2.2.2.1, i3x.2.2.2.2.2.2, i5x.1, i5x.2.1, i5x.2.2.1, i5x.2.2.2.1, i5x.2.2.2.2.1, i5x.2.2.2.2.2.1, i5x.2.2.2.2.2.2.1, i5x.2.2.2.2.2.2.2.1, i5x.2.2.2.2.2.2.2.2.1, i5x.2.2.2.2.2.2.2.2.2.1, i5x.2.2.2.2.2.2.2.2.2.2, nI_clamp (show i < 2 ^ 31 by omega)]
      · skip
        refine go_aload_n (q := 0) (i := 0) rfl rfl dX12_holding_0 ?_
        refine go_iload_n (q := 1) (i := 1) rfl rfl dX12_holding_1 ?_
        refine go_callV okmX12_isHolding lmX12_416 ⟨nle rfl, nle rfl⟩ hx.o ⟨by decide, rfl⟩ (ex_isHolding hx hm) npmX12_isHolding rfl (nle rfl) ⟨nle rfl, nle rfl⟩ dX12_holding_2 ?_
        rintro _ mz ⟨rfl, hz⟩
        subst mz
        rw [hh]
        refine go_c1 ?_
        refine gz_ne (by omega) (tgt := 12) dX12_holding_5 (by decide) (fun h5 => ?_) (fun h5 => by exfalso; omega)
        refine go_aload_n (q := 0) (i := 0) rfl rfl dX12_holding_12 ?_
        refine go_callV okmX12_copies lmX12_413 ⟨nle rfl, nle rfl⟩ hx.o ⟨by decide, rfl⟩ (ex_copies hx hm) npmX12_copies rfl (nle rfl) ⟨nle rfl, nle rfl⟩ dX12_holding_13 ?_
        rintro _ m1 ⟨rfl, c1, e1, s1, l1, -⟩
        have hx := c1.wf hx
        have hm := c1.md hm
        refine go_c0 ?_
        refine go_iload_n (q := 2) (i := 2) rfl rfl dX12_holding_16 ?_
        refine go_tswIn (off := 67) (tgt := 84) dX12_holding_17 (by decide) (by decide) (by decide) (by decide) ?_
        refine go_aload_n (q := 0) (i := 0) rfl rfl dX12_holding_84 ?_
        refine go_iload_n (q := 1) (i := 1) rfl rfl dX12_holding_85 ?_
        refine go_callV okmX12_cellsOf lmX12_420 ⟨nle rfl, nle rfl⟩ hx.o ⟨by decide, rfl⟩ (ex_cellsOf hx hm ok) npmX12_cellsOf rfl (nle rfl) ⟨nle rfl, nle rfl⟩ dX12_holding_86 ?_
        rintro _ mz ⟨rfl, hz⟩
        subst mz
        rw [e1]
        refine go_c1 ?_
        refine go_iret rfl ⟨Nat.zero_le _, Nat.zero_le _⟩ dX12_holding_89 ?_
        refine ⟨?_, c1⟩
        simp only [hoS, hh, hw, i10, reduceIte, i20, i21, i3x.1, i3x.2.1, i3x.2.2.1, i3x.2.2.2.1, i3x.2.2.2.2.1, i3x.2.2.2.2.2.1, i3x.2.2.2.2.2.2, i5x.1, i5x.2.1, i5x.2.2.1, i5x.2.2.2.1, i5x.2.2.2.2.1, i5x.2.2.2.2.2.1, i5x.2.2.2.2.2.2.1, i5x.2.2.2.2.2.2.2.1, i5x.2.2.2.2.2.2.2.2.1, i5x.2.2.2.2.2.2.2.2.2.1, i5x.2.2.2.2.2.2.2.2.2.2, nI_clamp (show i < 2 ^ 31 by omega)]
      · skip
        refine go_aload_n (q := 0) (i := 0) rfl rfl dX12_holding_0 ?_
        refine go_iload_n (q := 1) (i := 1) rfl rfl dX12_holding_1 ?_
        refine go_callV okmX12_isHolding lmX12_416 ⟨nle rfl, nle rfl⟩ hx.o ⟨by decide, rfl⟩ (ex_isHolding hx hm) npmX12_isHolding rfl (nle rfl) ⟨nle rfl, nle rfl⟩ dX12_holding_2 ?_
        rintro _ mz ⟨rfl, hz⟩
        subst mz
        rw [hh]
        refine go_c1 ?_
        refine gz_ne (by omega) (tgt := 12) dX12_holding_5 (by decide) (fun h5 => ?_) (fun h5 => by exfalso; omega)
        refine go_aload_n (q := 0) (i := 0) rfl rfl dX12_holding_12 ?_
        refine go_callV okmX12_copies lmX12_413 ⟨nle rfl, nle rfl⟩ hx.o ⟨by decide, rfl⟩ (ex_copies hx hm) npmX12_copies rfl (nle rfl) ⟨nle rfl, nle rfl⟩ dX12_holding_13 ?_
        rintro _ m1 ⟨rfl, c1, e1, s1, l1, -⟩
        have hx := c1.wf hx
        have hm := c1.md hm
        refine go_c0 ?_
        refine go_iload_n (q := 2) (i := 2) rfl rfl dX12_holding_16 ?_
        refine go_tswIn (off := 73) (tgt := 90) dX12_holding_17 (by decide) (by decide) (by decide) (by decide) ?_
        refine go_aload_n (q := 0) (i := 0) rfl rfl dX12_holding_90 ?_
        refine go_iload_n (q := 1) (i := 1) rfl rfl dX12_holding_91 ?_
        refine go_callV okmX12_fogOf lmX12_387 ⟨nle rfl, nle rfl⟩ hx.o ⟨by decide, rfl⟩ (ex_fogOf hx hm ok) npmX12_fogOf rfl (nle rfl) ⟨nle rfl, nle rfl⟩ dX12_holding_92 ?_
        rintro _ mz ⟨rfl, hz⟩
        subst mz
        rw [e1]
        refine go_c1 ?_
        refine go_iret rfl ⟨Nat.zero_le _, Nat.zero_le _⟩ dX12_holding_95 ?_
        refine ⟨?_, c1⟩
        simp only [hoS, hh, hw, i10, reduceIte, i20, i21, i3x.1, i3x.2.1, i3x.2.2.1, i3x.2.2.2.1, i3x.2.2.2.2.1, i3x.2.2.2.2.2.1, i3x.2.2.2.2.2.2, i5x.1, i5x.2.1, i5x.2.2.1, i5x.2.2.2.1, i5x.2.2.2.2.1, i5x.2.2.2.2.2.1, i5x.2.2.2.2.2.2.1, i5x.2.2.2.2.2.2.2.1, i5x.2.2.2.2.2.2.2.2.1, i5x.2.2.2.2.2.2.2.2.2.1, i5x.2.2.2.2.2.2.2.2.2.2, nI_clamp (show i < 2 ^ 31 by omega)]
      · skip
        refine go_aload_n (q := 0) (i := 0) rfl rfl dX12_holding_0 ?_
        refine go_iload_n (q := 1) (i := 1) rfl rfl dX12_holding_1 ?_
        refine go_callV okmX12_isHolding lmX12_416 ⟨nle rfl, nle rfl⟩ hx.o ⟨by decide, rfl⟩ (ex_isHolding hx hm) npmX12_isHolding rfl (nle rfl) ⟨nle rfl, nle rfl⟩ dX12_holding_2 ?_
        rintro _ mz ⟨rfl, hz⟩
        subst mz
        rw [hh]
        refine go_c1 ?_
        refine gz_ne (by omega) (tgt := 12) dX12_holding_5 (by decide) (fun h5 => ?_) (fun h5 => by exfalso; omega)
        refine go_aload_n (q := 0) (i := 0) rfl rfl dX12_holding_12 ?_
        refine go_callV okmX12_copies lmX12_413 ⟨nle rfl, nle rfl⟩ hx.o ⟨by decide, rfl⟩ (ex_copies hx hm) npmX12_copies rfl (nle rfl) ⟨nle rfl, nle rfl⟩ dX12_holding_13 ?_
        rintro _ m1 ⟨rfl, c1, e1, s1, l1, -⟩
        have hx := c1.wf hx
        have hm := c1.md hm
        refine go_c0 ?_
        refine go_iload_n (q := 2) (i := 2) rfl rfl dX12_holding_16 ?_
        refine go_tswIn (off := 79) (tgt := 96) dX12_holding_17 (by decide) (by decide) (by decide) (by decide) ?_
        refine go_aload_n (q := 0) (i := 0) rfl rfl dX12_holding_96 ?_
        refine go_iload_n (q := 1) (i := 1) rfl rfl dX12_holding_97 ?_
        refine go_callV okmX12_isOver lmX12_423 ⟨nle rfl, nle rfl⟩ hx.o ⟨by decide, rfl⟩ (ex_isOver hx hm ok hi) npmX12_isOver rfl (nle rfl) ⟨nle rfl, nle rfl⟩ dX12_holding_98 ?_
        rintro _ mz ⟨rfl, hz⟩
        subst mz
        rw [e1]
        refine go_c1 ?_
        refine go_if_eq (tgt := 108) dX12_holding_101 (by decide) (fun h101 => ?_) (fun h101 => ?_)
        · skip
          refine go_iconst (v := nI 0) (by decide) dX12_holding_108 ?_
          refine go_iret rfl ⟨Nat.zero_le _, Nat.zero_le _⟩ dX12_holding_109 ?_
          refine ⟨?_, c1⟩
          simp only [hoS, hh, hw, i10, reduceIte, i20, i21, i3x.1, i3x.2.1, i3x.2.2.1, i3x.2.2.2.1, i3x.2.2.2.2.1, i3x.2.2.2.2.2.1, i3x.2.2.2.2.2.2, i5x.1, i5x.2.1, i5x.2.2.1, i5x.2.2.2.1, i5x.2.2.2.2.1, i5x.2.2.2.2.2.1, i5x.2.2.2.2.2.2.1, i5x.2.2.2.2.2.2.2.1, i5x.2.2.2.2.2.2.2.2.1, i5x.2.2.2.2.2.2.2.2.2.1, i5x.2.2.2.2.2.2.2.2.2.2, nI_clamp (show i < 2 ^ 31 by omega)]
          rw [show ovI _ _ _ = nI 0 from h101.trans nI_0.symm]
        · skip
          refine go_iconst (v := nI 1) (by decide) dX12_holding_104 ?_
          refine go_goto (tgt := 109) dX12_holding_105 (by decide) ?_
          refine go_iret rfl ⟨Nat.zero_le _, Nat.zero_le _⟩ dX12_holding_109 ?_
          refine ⟨?_, c1⟩
          simp only [hoS, hh, hw, i10, reduceIte, i20, i21, i3x.1, i3x.2.1, i3x.2.2.1, i3x.2.2.2.1, i3x.2.2.2.2.1, i3x.2.2.2.2.2.1, i3x.2.2.2.2.2.2, i5x.1, i5x.2.1, i5x.2.2.1, i5x.2.2.2.1, i5x.2.2.2.2.1, i5x.2.2.2.2.2.1, i5x.2.2.2.2.2.2.1, i5x.2.2.2.2.2.2.2.1, i5x.2.2.2.2.2.2.2.2.1, i5x.2.2.2.2.2.2.2.2.2.1, i5x.2.2.2.2.2.2.2.2.2.2, nI_clamp (show i < 2 ^ 31 by omega)]
          rw [is_1 (ov01 _ _ _) (fun z => h101 (z.trans nI_0))]
      · skip
        refine go_aload_n (q := 0) (i := 0) rfl rfl dX12_holding_0 ?_
        refine go_iload_n (q := 1) (i := 1) rfl rfl dX12_holding_1 ?_
        refine go_callV okmX12_isHolding lmX12_416 ⟨nle rfl, nle rfl⟩ hx.o ⟨by decide, rfl⟩ (ex_isHolding hx hm) npmX12_isHolding rfl (nle rfl) ⟨nle rfl, nle rfl⟩ dX12_holding_2 ?_
        rintro _ mz ⟨rfl, hz⟩
        subst mz
        rw [hh]
        refine go_c1 ?_
        refine gz_ne (by omega) (tgt := 12) dX12_holding_5 (by decide) (fun h5 => ?_) (fun h5 => by exfalso; omega)
        refine go_aload_n (q := 0) (i := 0) rfl rfl dX12_holding_12 ?_
        refine go_callV okmX12_copies lmX12_413 ⟨nle rfl, nle rfl⟩ hx.o ⟨by decide, rfl⟩ (ex_copies hx hm) npmX12_copies rfl (nle rfl) ⟨nle rfl, nle rfl⟩ dX12_holding_13 ?_
        rintro _ m1 ⟨rfl, c1, e1, s1, l1, -⟩
        have hx := c1.wf hx
        have hm := c1.md hm
        refine go_c0 ?_
        refine go_iload_n (q := 2) (i := 2) rfl rfl dX12_holding_16 ?_
        refine go_tswIn (off := 93) (tgt := 110) dX12_holding_17 (by decide) (by decide) (by decide) (by decide) ?_
        refine go_aload_n (q := 0) (i := 0) rfl rfl dX12_holding_110 ?_
        refine go_getR lf12_143 rfl hx.o hx.r59 dX12_holding_111 ?_
        refine go_bipush (v := nI 84) (by decide) dX12_holding_114 ?_
        refine go_iload_n (q := 1) (i := 1) rfl rfl dX12_holding_116 ?_
        refine gn_add dX12_holding_117 ?_
        refine go_iald (j := (84 + i)) hx.i59 (by omega) (by first | decide | omega) rfl dX12_holding_118 ?_
        rw [e1]
        refine go_iret rfl ⟨Nat.zero_le _, Nat.zero_le _⟩ dX12_holding_119 ?_
        refine ⟨?_, c1⟩
        simp only [hoS, hh, hw, i10, reduceIte, i20, i21, i3x.1, i3x.2.1, i3x.2.2.1, i3x.2.2.2.1, i3x.2.2.2.2.1, i3x.2.2.2.2.2.1, i3x.2.2.2.2.2.2, i5x.1, i5x.2.1, i5x.2.2.1, i5x.2.2.2.1, i5x.2.2.2.2.1, i5x.2.2.2.2.2.1, i5x.2.2.2.2.2.2.1, i5x.2.2.2.2.2.2.2.1, i5x.2.2.2.2.2.2.2.2.1, i5x.2.2.2.2.2.2.2.2.2.1, i5x.2.2.2.2.2.2.2.2.2.2, nI_clamp (show i < 2 ^ 31 by omega)]
      · skip
        refine go_aload_n (q := 0) (i := 0) rfl rfl dX12_holding_0 ?_
        refine go_iload_n (q := 1) (i := 1) rfl rfl dX12_holding_1 ?_
        refine go_callV okmX12_isHolding lmX12_416 ⟨nle rfl, nle rfl⟩ hx.o ⟨by decide, rfl⟩ (ex_isHolding hx hm) npmX12_isHolding rfl (nle rfl) ⟨nle rfl, nle rfl⟩ dX12_holding_2 ?_
        rintro _ mz ⟨rfl, hz⟩
        subst mz
        rw [hh]
        refine go_c1 ?_
        refine gz_ne (by omega) (tgt := 12) dX12_holding_5 (by decide) (fun h5 => ?_) (fun h5 => by exfalso; omega)
        refine go_aload_n (q := 0) (i := 0) rfl rfl dX12_holding_12 ?_
        refine go_callV okmX12_copies lmX12_413 ⟨nle rfl, nle rfl⟩ hx.o ⟨by decide, rfl⟩ (ex_copies hx hm) npmX12_copies rfl (nle rfl) ⟨nle rfl, nle rfl⟩ dX12_holding_13 ?_
        rintro _ m1 ⟨rfl, c1, e1, s1, l1, -⟩
        have hx := c1.wf hx
        have hm := c1.md hm
        refine go_c0 ?_
        refine go_iload_n (q := 2) (i := 2) rfl rfl dX12_holding_16 ?_
        refine go_tswIn (off := 103) (tgt := 120) dX12_holding_17 (by decide) (by decide) (by decide) (by decide) ?_
        refine go_aload_n (q := 0) (i := 0) rfl rfl dX12_holding_120 ?_
        refine go_iload_n (q := 1) (i := 1) rfl rfl dX12_holding_121 ?_
        refine go_callV okmX12_netted lmX12_426 ⟨nle rfl, nle rfl⟩ hx.o ⟨by decide, rfl⟩ (ex_netted hx (by omega)) npmX12_netted rfl (nle rfl) ⟨nle rfl, nle rfl⟩ dX12_holding_122 ?_
        rintro _ mz ⟨rfl, hz⟩
        subst mz
        rw [e1]
        refine go_c1 ?_
        refine go_iret rfl ⟨Nat.zero_le _, Nat.zero_le _⟩ dX12_holding_125 ?_
        refine ⟨?_, c1⟩
        simp only [hoS, hh, hw, i10, reduceIte, i20, i21, i3x.1, i3x.2.1, i3x.2.2.1, i3x.2.2.2.1, i3x.2.2.2.2.1, i3x.2.2.2.2.2.1, i3x.2.2.2.2.2.2, i5x.1, i5x.2.1, i5x.2.2.1, i5x.2.2.2.1, i5x.2.2.2.2.1, i5x.2.2.2.2.2.1, i5x.2.2.2.2.2.2.1, i5x.2.2.2.2.2.2.2.1, i5x.2.2.2.2.2.2.2.2.1, i5x.2.2.2.2.2.2.2.2.2.1, i5x.2.2.2.2.2.2.2.2.2.2, nI_clamp (show i < 2 ^ 31 by omega)]
