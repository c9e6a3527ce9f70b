def zOk (B : Nat → Nat) (n z : Nat) : Prop := (∀ j, j + 1 < z → tK B n j < 34) ∧ 0 < z ∧ z ≤ 401 ∧ (z = 401 ∨ 34 ≤ tK B n (z - 1))
theorem tok_v {B : Nat → Nat} {n z : Nat} : ∀ j, kG B n z j = 24 → vG B n z j < 65536 := fun j h => by
  unfold kG at h
  by_cases g : j < z
  · rw [if_pos g] at h
    obtain ⟨a, b⟩ := tkK_24 h
    have hl : dgF B (tP B n j) (en B n isDg (tP B n j) - tP B n j) < 10 ^ (en B n isDg (tP B n j) - tP B n j) := dgF_lt _ (fun i hi => en_in (tP_le (B := B) (n := n) (i := j)) _ (by omega) (by omega))
    unfold vG
    rw [if_pos g]
    have h4 : 10 ^ (en B n isDg (tP B n j) - tP B n j) ≤ 10 ^ 4 := Nat.pow_le_pow_right (by decide) b
    have h5 : (10 : Nat) ^ 4 < 65536 := by decide
    exact Nat.lt_trans (Nat.lt_of_lt_of_le hl h4) h5
  · rw [if_neg g] at h
    exact absurd h (by decide)
theorem tok_n {B : Nat → Nat} {n z : Nat} : ∀ j, kG B n z j = 23 → NmO (tL B n j) := fun j h => by
  unfold kG at h
  by_cases g : j < z
  · rw [if_pos g] at h
    obtain ⟨a, b⟩ := tkK_23 (Nat.le_of_eq h)
    have hg := en_gt a
    unfold tL
    exact ⟨lsF_o _ (fun i hi => en_in (tP_le (B := B) (n := n) (i := j)) _ (by omega) (by omega)), by rw [lsF_len]; omega, by rw [lsF_len]; exact b⟩
  · rw [if_neg g] at h
    exact absurd h (by decide)
theorem tP_up {B : Nat → Nat} {n i : Nat} (h : tK B n i < 34) : tP B n i < tP B n (i + 1) := by
  have h1 := tkN_gt (B := B) (tkK_lt h)
  have h2 : tkQ B n (i + 1) ≤ tP B n (i + 1) := en_ge (tkQ_le (i + 1))
  exact Nat.lt_of_lt_of_le h1 h2
theorem tok_p {B : Nat → Nat} {n z : Nat} (hz : zOk B n z) : PuG B n z := by
  intro i j hij hj
  unfold pG
  rw [if_pos (by omega), if_pos hj]
  have key : ∀ k, i + k + 1 < z → tP B n i < tP B n (i + k + 1) := by
    intro k
    induction k with
    | zero => exact fun h => tP_up (hz.1 i h)
    | succ k ih => exact fun h => Nat.lt_trans (ih (by omega)) (tP_up (hz.1 (i + k + 1) (by omega)))
  have := key (j - i - 1) (by omega)
  rw [show i + (j - i - 1) + 1 = j by omega] at this
  exact this
theorem sgK_34 (c : Nat) : sgK c ≠ 34 := by
  unfold sgK
  repeat' split
  all_goals decide
theorem tok_e {B : Nat → Nat} {n z q : Nat} (h : kG B n z q = 34) : pG B n z q = n := by
  unfold pG
  by_cases g : q < z
  · rw [if_pos g]
    unfold kG at h
    rw [if_pos g] at h
    have hle : tP B n q ≤ n := tP_le
    by_cases l : tP B n q < n
    · exfalso
      unfold tK tkK at h
      rw [pit_t l] at h
      have hk := kwI_le (lsF B (tP B n q) (en B n isLt (tP B n q) - tP B n q))
      by_cases e1 : isLt (B (tP B n q))
      · rw [pit_t e1] at h
        by_cases e2 : 8 < en B n isLt (tP B n q) - tP B n q
        · rw [if_pos e2] at h; omega
        · rw [if_neg e2] at h; omega
      · rw [pit_f e1] at h
        by_cases e2 : isDg (B (tP B n q))
        · rw [pit_t e2] at h
          by_cases e3 : 4 < en B n isDg (tP B n q) - tP B n q
          · rw [if_pos e3] at h; omega
          · rw [if_neg e3] at h; omega
        · rw [pit_f e2] at h
          exact sgK_34 _ h
    · omega
  · rw [if_neg g]
/-! what reading a text answers -/
noncomputable def rdS (B : Nat → Nat) (n z : Nat) : Nat × Nat := gChk (kG B n z) 401 (fun _ => 0) (0, 0)
noncomputable def rdF (B : Nat → Nat) (n z : Nat) : Dr × (Nat × Nat) := dF (kG B n z) (vG B n z) (tL B n)
noncomputable def rdW (B : Nat → Nat) (n z : Nat) : Nat × Nat := if (rdS B n z).1 = 0 then wF (rdF B n z).1 (rdS B n z).2 (rdF B n z).2 else rdS B n z
noncomputable def rdP (B : Nat → Nat) (n z : Nat) : Int32 := if (rdW B n z).1 = 0 then -1 else nI (pG B n z (rdW B n z).2)
theorem rd_ok {B : Nat → Nat} {n z : Nat} (h : (rdS B n z).1 = 0) : (∃ c, CnW c (rdF B n z).1) ∧ ((rdF B n z).2.1 = 0 → DrO (rdF B n z).1 ∧ NmD (rdF B n z).1) ∧ kG B n z (rdS B n z).2 = 34 ∧ (rdS B n z).2 ≤ 400 := by
  have e : gChk (kG B n z) 401 (fun _ => 0) (0, 0) = (0, (rdS B n z).2) := pr_z h
  obtain ⟨a, b, -⟩ := chk_end 401 0 _ (by omega) (by omega) e
  obtain ⟨c, d⟩ := dA_ok (V := vG B n z) tok_n tok_v 401 0 _ drZ (0, 0) (by omega) (by omega) e ⟨Nat.zero_le _, drZ_ok.2⟩ (fun _ => ⟨drZ_ok.1, fun h g h1 => absurd h1 (Nat.not_lt_zero h)⟩)
  exact ⟨c, d, a, b⟩
theorem rd_pl {B : Nat → Nat} {n z : Nat} (h : (rdW B n z).1 = 0) : (rdS B n z).1 = 0 ∧ (rdF B n z).2.1 = 0 ∧ laO (rdF B n z).1 ∧ PlOk (plD (rdF B n z).1) := by
  unfold rdW at h
  by_cases q : (rdS B n z).1 = 0
  · rw [if_pos q] at h
    obtain ⟨l, w⟩ := wq_z (by decide) h
    have l := Classical.not_not.mp l
    obtain ⟨⟨c, hc⟩, d, -⟩ := rd_ok q
    exact ⟨q, w, l, plD_ok (d w).1 hc l⟩
  · rw [if_neg q] at h
    exact absurd h q
/-- what a read that finds a fault writes of the class -/
def FrR (dr : Nat) (m m' : Me) : Prop := m'.1 = m.1 ∧ gR m' = gR m ∧ (∀ x, ¬ (x = 1 ∨ x = 3 ∨ x = 5 ∨ x = 7 ∨ x = 8 ∨ x = 9 ∨ x = 10 ∨ (dr ≤ x ∧ x ≤ dr + 14)) → gI m' x = gI m x) ∧ ∀ x, x ≠ 6 → x ≠ 11 → x ≠ 12 → gJ m' x = gJ m x
/-- what stands of the class when a text is in place -/
def CrN (m m' : Me) (pl dr : Nat) (P : Pl) : Prop := CX m'.1 (gR m') dr pl ∧ Wf12 m'.1 (gR m') ∧ PlC m' dr P ∧ CR P (gw m' 15) (bgM P) ∧ gI m' 27 1 = gI m 27 1 ∧ gI m' 27 2 = nI 0 ∧ gI m' 211 3 = nI 0 ∧ (∀ j, j < 3 → gI m' 210 j = nI 0) ∧ m'.1 = m.1 ∧ (∀ x, 274 ≤ x → gI m' x = gI m x) ∧ ∀ x, x = 4 ∨ 274 ≤ x → gJ m' x = gJ m x
set_option maxRecDepth 100000 in
set_option maxHeartbeats 8000000 in
theorem ev_read {m : Me} {pl dr n : Nat} {B : Nat → Nat} (hX : CX m.1 (gR m) pl dr) (hx : Wf12 m.1 (gR m)) (hTC : TpC m B n) (hkw : ∀ k, k < 23 → gJ m 4 k = kwC k) : Ev mX11_read [.ref 0] m (fun o m' => ∃ z, zOk B n z ∧ o = some (.int (nI (rdW B n z).1)) ∧ gI m' 3 7 = rdP B n z ∧ gI m' 1 1 = nI 0 ∧ ((rdW B n z).1 ≠ 0 → FrR dr m m') ∧ ((rdW B n z).1 = 0 → CrN m m' pl dr (plD (rdF B n z).1))) := by
  refine ⟨plmX11_read, nle rfl, ?_⟩
  have hpd := hX.pd
  refine go_aload_n (q := 0) (i := 0) rfl rfl dX11_read_0 ?_
  refine go_getR lf11_19 rfl hX.o hX.r1 dX11_read_1 ?_
  refine go_aload_n (q := 0) (i := 0) rfl rfl dX11_read_4 ?_
  refine go_getR lf11_12 rfl hX.o hX.r0 dX11_read_5 ?_
  refine go_callV okmX10_scan lmX11_105 ⟨nle rfl, nle rfl⟩ hX.w1.o ⟨by decide, rfl⟩ (ev_scan hX.w1 hX.w0 hTC hkw) npmX10_scan rfl (nle rfl) ⟨nle rfl, nle rfl⟩ dX11_read_8 ?_
  rintro _ m1 ⟨rfl, c1, z, htk, h35, h36, h37⟩
  have hX : CX m1.1 (gR m1) pl dr := c1.to (F := fun q s => CX q s pl dr) hX
  have hx : Wf12 m1.1 (gR m1) := c1.to (F := Wf12) hx
  have hz : zOk B n z := ⟨htk.2.1, htk.2.2.1, htk.2.2.2.1, htk.2.2.2.2⟩
  refine go_c0 ?_
  refine go_aload_n (q := 0) (i := 0) rfl rfl dX11_read_11 ?_
  refine go_getR lf11_26 rfl hX.o hX.r2 dX11_read_12 ?_
  refine go_aload_n (q := 0) (i := 0) rfl rfl dX11_read_15 ?_
  refine go_getR lf11_19 rfl hX.o hX.r1 dX11_read_16 ?_
  refine go_callV okmX2_check lmX11_109 ⟨nle rfl, nle rfl⟩ hX.w2.o ⟨by decide, rfl⟩ (ev_gcheck (B := B) (n := n) (z := z) ⟨hTC.1, hX.w2, hX.w1, htk, h35⟩ h36 h37) npmX2_check rfl (nle rfl) ⟨nle rfl, nle rfl⟩ dX11_read_19 ?_
  rintro _ m2 ⟨rfl, hGC⟩
  have c2 := hGC.1
  have hX : CX m2.1 (gR m2) pl dr := c2.to (F := fun q s => CX q s pl dr) hX
  have hx : Wf12 m2.1 (gR m2) := c2.to (F := Wf12) hx
  have e3 : ∀ k, k ≠ 6 → k ≠ 7 → gI m2 3 k = gI m1 3 k := hGC.2.1
  have hS9 : (rdS B n z).1 ≤ 9 := hGC.2.2.2.2.1
  have hf6 : gI m2 3 6 = nI (rdS B n z).1 := by
    by_cases q : (rdS B n z).1 = 0
    · rw [(hGC.2.2.1 q).1, q]
    · exact (hGC.2.2.2.1 q).1
  have hTX : TkX m2 B n z := ⟨hTC.1, hz.2.2.1, by rw [e3 5 (by decide) (by decide)]; exact h35, by unfold TkS; rw [e3 4 (by decide) (by decide), c2.at (show ¬ (5 = 3 ∨ 5 = 8 ∨ 5 = 9) by decide), c2.at (show ¬ (7 = 3 ∨ 7 = 8 ∨ 7 = 9) by decide), c2.aj (x := 6) (fun a => a)]; exact htk.1⟩
  have hF2 : Fx (fun x => x = 3 ∨ x = 5 ∨ x = 7 ∨ x = 8 ∨ x = 9) (fun x => x = 6) m m2 := (c1.mn (fun x h => by omega) (fun x h => h)).tr (c2.mn (fun x h => by omega) (fun x h => h.elim))
  by_cases hS : (rdS B n z).1 = 0
  · skip
    have hS0 := hS
    refine go_c0 ?_
    refine go_aload_n (q := 0) (i := 0) rfl rfl dX11_read_22 ?_
    refine go_getR lf11_19 rfl hX.o hX.r1 dX11_read_23 ?_
    refine go_getI lf11_113 rfl hX.w1.o dX11_read_26 ?_
    rw [hf6]
    refine gz_ne (by omega) (tgt := 47) dX11_read_29 (by decide) (fun h29 => by exfalso; omega) (fun h29 => ?_)
    refine go_aload_n (q := 0) (i := 0) rfl rfl dX11_read_32 ?_
    refine go_getR lf11_33 rfl hX.o hX.r3 dX11_read_33 ?_
    refine go_aload_n (q := 0) (i := 0) rfl rfl dX11_read_36 ?_
    refine go_getR lf11_90 rfl hX.o hX.rd dX11_read_37 ?_
    refine go_aload_n (q := 0) (i := 0) rfl rfl dX11_read_40 ?_
    refine go_getR lf11_19 rfl hX.o hX.r1 dX11_read_41 ?_
    refine go_callV okmX0_fillPlan lmX11_116 ⟨nle rfl, nle rfl⟩ hX.w3.o ⟨by decide, rfl⟩ (ev_fillPlan (q := (rdS B n z).2) (Dz := (rdF B n z).1) (wz := (rdF B n z).2) hTX hX.w1 hX.w3 hX.wd (by omega) ⟨by rw [hf6, hS], fun _ => (hGC.2.2.1 hS).2.1, fun q => absurd rfl q, Nat.zero_le _⟩ tok_v tok_n (pr_z hS) rfl (tok_e (rd_ok hS).2.2.1)) npmX0_fillPlan rfl (nle rfl) ⟨nle rfl, nle rfl⟩ dX11_read_44 ?_
    rintro _ m3 ⟨rfl, f1, f2, f3⟩
    have hX : CX m3.1 (gR m3) pl dr := f3.1.to (F := fun q s => CX q s pl dr) hX
    have hx : Wf12 m3.1 (gR m3) := f3.1.to (F := Wf12) hx
    have hW : rdW B n z = wF (rdF B n z).1 (rdS B n z).2 (rdF B n z).2 := if_pos hS
    rw [← hW] at f1 f2
    have hF3 : Fx (fun x => x = 3 ∨ x = 5 ∨ x = 7 ∨ x = 8 ∨ x = 9 ∨ x = 10 ∨ (dr ≤ x ∧ x ≤ dr + 14)) (fun x => x = 6 ∨ x = 11 ∨ x = 12) m m3 := (hF2.mn (fun x h => by omega) (fun x h => by omega)).tr (f3.1.mn (fun x h => by omega) (fun x h => by omega))
    have hW9 := f1.2.2.2
    refine go_c0 ?_
    refine go_aload_n (q := 0) (i := 0) rfl rfl dX11_read_47 ?_
    refine go_getR lf11_12 rfl hX.o hX.r0 dX11_read_48 ?_
    refine go_iconst (v := nI 0) (by decide) dX11_read_51 ?_
    refine go_putI lf11_97 rfl (Or.inl rfl) hX.w0.o dX11_read_52 ?_
    refine go_aload_n (q := 0) (i := 0) rfl rfl dX11_read_55 ?_
    refine go_getR lf11_19 rfl hX.o hX.r1 dX11_read_56 ?_
    refine go_getI lf11_113 rfl hX.w1.o dX11_read_59 ?_
    rw [gI_n (by decide), f1.1]
    refine gz_ne (by omega) (tgt := 69) dX11_read_62 (by decide) (fun h62 => ?_) (fun h62 => ?_)
    · skip
      refine go_aload_n (q := 0) (i := 0) rfl rfl dX11_read_69 ?_
      refine go_getR lf11_19 rfl hX.o hX.r1 dX11_read_70 ?_
      refine go_getI lf11_113 rfl hX.w1.o dX11_read_73 ?_
      rw [gI_n (by decide), f1.1]
      refine go_iret rfl ⟨Nat.zero_le _, Nat.zero_le _⟩ dX11_read_76 ?_
      have hw0 : (rdW B n z).1 ≠ 0 := by omega
      refine ⟨z, hz, rfl, ?_, by rw [gI_s, upd_same], fun _ => ⟨hF3.1, hF3.2.1, fun x h => ?_, fun x a b c => hF3.aj (by omega)⟩, fun q => absurd q hw0⟩
      · unfold rdP
        rw [if_neg hw0, gI_n (by decide)]
        exact f1.2.2.1 hw0
      · rw [gI_n (by omega)]
        exact hF3.at (by omega)
    · skip
      have hw0 : (rdW B n z).1 = 0 := by omega
      refine go_aload_n (q := 0) (i := 0) rfl rfl dX11_read_65 ?_
      refine go_callV okmX11_beginDraft lmX11_120 ⟨nle rfl, nle rfl⟩ hX.o ⟨by decide, rfl⟩ (ev_beginDraft (P := plD (rdF B n z).1) (m := sI m3 1 (upd (gI m3 1) 1 (nI 0))) hX hx (PlC.keep ((f2 hw0).pl ((rd_ok hS).2.1 (rd_pl hw0).2.1).1 (Classical.choose_spec (rd_ok hS).1) (rd_pl hw0).2.2.1) (fun x a b _ => gI_n (by omega))) (rd_pl hw0).2.2.2) npmX11_beginDraft rfl (nle rfl) ⟨nle rfl, nle rfl⟩ dX11_read_66 ?_
      rintro _ m4 ⟨rfl, b1, b2, b3, b4, b5, b6, b7, b8, b9, bA, bB⟩
      have hX := b1
      refine go_c0 ?_
      refine go_aload_n (q := 0) (i := 0) rfl rfl dX11_read_69 ?_
      refine go_getR lf11_19 rfl hX.o hX.r1 dX11_read_70 ?_
      refine go_getI lf11_113 rfl hX.w1.o dX11_read_73 ?_
      rw [bA 3 (by decide) (by decide) (by decide) (by decide), gI_n (by decide), f1.1]
      refine go_iret rfl ⟨Nat.zero_le _, Nat.zero_le _⟩ dX11_read_76 ?_
      have hw0 : (rdW B n z).1 = 0 := by omega
      refine ⟨z, hz, rfl, ?_, ?_, fun q => absurd hw0 q, fun _ => ⟨b1, b2, b3, b4, ?_, b6, b7, b8, b9.trans hF3.1, fun x hx2 => ?_, fun x hx2 => ?_⟩⟩
      · unfold rdP
        rw [if_pos hw0, bA 3 (by decide) (by decide) (by decide) (by decide), gI_n (by decide)]
        exact f1.2.1 hw0
      · rw [bA 1 (by decide) (by decide) (by decide) (by decide), gI_s, upd_same]
      · rw [b5, gI_n (by decide), hF3.at (by omega)]
      · rw [bA x (by omega) (by omega) (by omega) (by omega), gI_n (by omega), hF3.at (by omega)]
      · rw [bB, gJ_I, hF3.aj (by omega)]
  · skip
    have hS1 := hS
    refine go_c0 ?_
    refine go_aload_n (q := 0) (i := 0) rfl rfl dX11_read_22 ?_
    refine go_getR lf11_19 rfl hX.o hX.r1 dX11_read_23 ?_
    refine go_getI lf11_113 rfl hX.w1.o dX11_read_26 ?_
    rw [hf6]
    refine gz_ne (by omega) (tgt := 47) dX11_read_29 (by decide) (fun h29 => ?_) (fun h29 => by exfalso; omega)
    refine go_aload_n (q := 0) (i := 0) rfl rfl dX11_read_47 ?_
    refine go_getR lf11_12 rfl hX.o hX.r0 dX11_read_48 ?_
    refine go_iconst (v := nI 0) (by decide) dX11_read_51 ?_
    refine go_putI lf11_97 rfl (Or.inl rfl) hX.w0.o dX11_read_52 ?_
    refine go_aload_n (q := 0) (i := 0) rfl rfl dX11_read_55 ?_
    refine go_getR lf11_19 rfl hX.o hX.r1 dX11_read_56 ?_
    refine go_getI lf11_113 rfl hX.w1.o dX11_read_59 ?_
    rw [gI_n (by decide), hf6]
    refine gz_ne (by omega) (tgt := 69) dX11_read_62 (by decide) (fun h62 => ?_) (fun h62 => by exfalso; omega)
    refine go_aload_n (q := 0) (i := 0) rfl rfl dX11_read_69 ?_
    refine go_getR lf11_19 rfl hX.o hX.r1 dX11_read_70 ?_
    refine go_getI lf11_113 rfl hX.w1.o dX11_read_73 ?_
    rw [gI_n (by decide), hf6]
    refine go_iret rfl ⟨Nat.zero_le _, Nat.zero_le _⟩ dX11_read_76 ?_
    have hW : rdW B n z = rdS B n z := if_neg hS
    refine ⟨z, hz, by rw [hW], ?_, by rw [gI_s, upd_same], fun _ => ⟨hF2.1, hF2.2.1, fun x h => ?_, fun x a b c => hF2.aj a⟩, fun q => absurd q (by rw [hW]; exact hS)⟩
    · unfold rdP
      rw [hW, if_neg hS, gI_n (by decide)]
      exact (hGC.2.2.2.1 hS).2
    · rw [gI_n (by omega)]
      exact hF2.at (by omega)
