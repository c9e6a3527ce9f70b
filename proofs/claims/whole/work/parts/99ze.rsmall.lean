/-- what is wrong so far, as the reference holds it -/
def WQ (m : Me) (B : Nat → Nat) (n z : Nat) (s w : Nat × Nat) : Prop := s.1 = 0 → gI m 274 15 = nI w.1 ∧ (w.1 ≠ 0 → gI m 274 16 = nI (pG B n z w.2)) ∧ w.1 ≤ 9
/-- a wrong at token j is the first one, or stands behind the first -/
def Wo (w : Nat × Nat) (c j : Nat) : Prop := w.1 ≠ 0 → w.2 < j ∨ (w.2 = j ∧ w.1 ≤ c)
/-- only where it stands and what is wrong are written -/
def FW (m m' : Me) : Prop := Fx (fun x => x = 274) (fun _ => False) m m' ∧ ∀ k, k ≠ 11 → k ≠ 13 → k ≠ 14 → k ≠ 15 → k ≠ 16 → gI m' 274 k = gI m 274 k
theorem FW.rf {m : Me} : FW m m := ⟨Fx.rf, fun _ _ _ _ _ _ => rfl⟩
theorem FW.tr {m m' m'' : Me} (h : FW m m') (k : FW m' m'') : FW m m'' := ⟨h.1.tr k.1, fun x a b c d e => (k.2 x a b c d e).trans (h.2 x a b c d e)⟩
theorem Fq.fw {m m' : Me} (c : Fq m m') : FW m m' := ⟨c.1, fun k a b d _ _ => c.2 k a b d⟩
theorem FW.tk {m m' : Me} {B : Nat → Nat} {n z : Nat} (c : FW m m') (h : TkR m B n z) : TkR m' B n z := ⟨h.1, h.2.1, h.2.2.1, fun j hj => by rw [c.1.at (by decide), c.1.at (by decide), c.1.at (by decide), c.1.aj (by decide)]; exact h.2.2.2 j hj⟩
theorem FW.wf {m m' : Me} (c : FW m m') (h : Wf12 m.1 (gR m)) : Wf12 m'.1 (gR m') := c.1.to (F := Wf12) h
theorem WQ.fq {m m' : Me} {B : Nat → Nat} {n z : Nat} {s s' w : Nat × Nat} (h : WQ m B n z s w) (c : Fq m m') (hs : s'.1 = 0 → s.1 = 0) : WQ m' B n z s' w := fun q => by
  rw [c.2 15 (by decide) (by decide) (by decide), c.2 16 (by decide) (by decide) (by decide)]
  exact h (hs q)
theorem WQ.e {m : Me} {B : Nat → Nat} {n z : Nat} {s w w' : Nat × Nat} (h : WQ m B n z s w) (e : s.1 = 0 → w' = w) : WQ m B n z s w' := fun q => by
  rw [e q]
  exact h q
theorem gTk_s {K : Nat → Nat} {k : Nat} {s : Nat × Nat} (h : (gTk K k s).1 = 0) : s.1 = 0 := (gTk_z h).1
/-- places rise -/
def PuG (B : Nat → Nat) (n z : Nat) : Prop := ∀ i j, i < j → j < z → pG B n z i < pG B n z j
theorem pG_le {B : Nat → Nat} {n z : Nat} (i : Nat) : pG B n z i ≤ n := by
  unfold pG
  split
  · exact tP_le
  · exact Nat.le_refl _
set_option maxRecDepth 100000 in
set_option maxHeartbeats 8000000 in
theorem ex_wrong {m : Me} {B : Nat → Nat} {n z : Nat} {s w : Nat × Nat} (hx : Wf12 m.1 (gR m)) (hT : TkR m B n z) (h : GM m B n z s) (hq : WQ m B n z s w) (hpu : PuG B n z) (hn : n ≤ 2000) {c j : Nat} (hc : 0 < c ∧ c ≤ 9) (hj : j < z) (ho : s.1 = 0 → Wo w c j) : Ev mX12_wrong [.ref 274, .int (nI c), .int (nI j)] m (fun o m' => o = none ∧ GM m' B n z s ∧ WQ m' B n z s (wq True c j w) ∧ FW m m') := by
  refine ⟨plmX12_wrong, nle rfl, ?_⟩
  have hz := hT.2.1
  have hs9 := h.2.2.2.1
  have hpn : ∀ i, pG B n z i ≤ n := pG_le
  refine go_aload_n (q := 0) (i := 0) rfl rfl dX12_wrong_0 ?_
  refine go_getR lf12_24 rfl hx.o hx.r6 dX12_wrong_1 ?_
  refine go_iload_n (q := 2) (i := 2) rfl rfl dX12_wrong_4 ?_
  refine go_iald (j := j) hx.i6 (by omega) (by first | decide | omega) rfl dX12_wrong_5 ?_
  rw [(hT.k hj).2]
  have hpj := hpn j
  refine go_istore_n (q := 3) (i := 3) rfl dX12_wrong_6 (nle rfl) (nle rfl) ?_
  refine go_aload_n (q := 0) (i := 0) rfl rfl dX12_wrong_7 ?_
  refine go_getI lf12_230 rfl hx.o dX12_wrong_8 ?_
  rw [h.1]
  refine gz_gt (by omega) (tgt := 45) dX12_wrong_11 (by decide) (fun h11 => ?_) (fun h11 => ?_)
  · skip
    refine go_vret rfl ⟨Nat.zero_le _, Nat.zero_le _⟩ dX12_wrong_45 ?_
    refine ⟨rfl, h, fun q => ?_, FW.rf⟩
    omega
  · skip
    refine go_aload_n (q := 0) (i := 0) rfl rfl dX12_wrong_14 ?_
    refine go_getI lf12_239 rfl hx.o dX12_wrong_15 ?_
    have z0 : s.1 = 0 := by omega
    have hw9 := (hq z0).2.2
    rw [(hq z0).1]
    refine gz_eq (by omega) (tgt := 46) dX12_wrong_18 (by decide) (fun h18 => ?_) (fun h18 => ?_)
    · skip
      refine go_aload_n (q := 0) (i := 0) rfl rfl dX12_wrong_46 ?_
      refine go_iload_n (q := 1) (i := 1) rfl rfl dX12_wrong_47 ?_
      refine go_putI lf12_239 rfl (Or.inl rfl) hx.o dX12_wrong_48 ?_
      refine go_aload_n (q := 0) (i := 0) rfl rfl dX12_wrong_51 ?_
      refine go_iload_n (q := 3) (i := 3) rfl rfl dX12_wrong_52 ?_
      refine go_putI lf12_242 rfl (Or.inl rfl) hx.o dX12_wrong_53 ?_
      refine go_vret rfl ⟨Nat.zero_le _, Nat.zero_le _⟩ dX12_wrong_56 ?_
      have z0 : s.1 = 0 := by omega
      obtain ⟨q1, q2, q3⟩ := hq z0
      have w0 : w.1 = 0 := by
        by_cases w0 : w.1 = 0
        · exact w0
        · exfalso
          have hp := q2 w0
          omega
      rw [wq_t True.intro w0]
      refine ⟨rfl, ⟨?_, fun _ => ?_, fun q => absurd z0 q, h.2.2.2.1, h.2.2.2.2.1, ?_⟩, fun _ => ⟨?_, fun _ => ?_, hc.2⟩, ⟨Fx.I (Fx.I Fx.rf rfl) rfl, fun k a b d e f => ?_⟩⟩
      · rw [gI_s, upd_ne (by decide), gI_s, upd_ne (by decide)]; exact h.1
      · rw [gI_s, upd_ne (by decide), gI_s, upd_ne (by decide)]; exact h.2.1 z0
      · obtain ⟨a, a1, a2⟩ := h.2.2.2.2.2
        exact ⟨a, a1, by rw [gI_s, upd_ne (by decide), gI_s, upd_ne (by decide)]; exact a2⟩
      · rw [gI_s, upd_ne (by decide), gI_s, upd_same]
      · rw [gI_s, upd_same]
      · rw [gI_s, upd_ne f, gI_s, upd_ne e]
    · skip
      refine go_iload_n (q := 3) (i := 3) rfl rfl dX12_wrong_21 ?_
      refine go_aload_n (q := 0) (i := 0) rfl rfl dX12_wrong_22 ?_
      refine go_getI lf12_242 rfl hx.o dX12_wrong_23 ?_
      have w0 : w.1 ≠ 0 := by omega
      have hpw := hpn w.2
      rw [(hq z0).2.1 w0]
      refine gn_gt (by omega) (by omega) (tgt := 45) dX12_wrong_26 (by decide) (fun h26 => ?_) (fun h26 => ?_)
      · skip
        refine go_vret rfl ⟨Nat.zero_le _, Nat.zero_le _⟩ dX12_wrong_45 ?_
        have z0 : s.1 = 0 := by omega
        obtain ⟨q1, q2, q3⟩ := hq z0
        refine ⟨rfl, h, hq.e (fun _ => wq_s ?_), FW.rf⟩
        omega
      · skip
        refine go_iload_n (q := 3) (i := 3) rfl rfl dX12_wrong_29 ?_
        refine go_aload_n (q := 0) (i := 0) rfl rfl dX12_wrong_30 ?_
        refine go_getI lf12_242 rfl hx.o dX12_wrong_31 ?_
        rw [(hq z0).2.1 w0]
        refine gn_ne (by omega) (by omega) (tgt := 46) dX12_wrong_34 (by decide) (fun h34 => ?_) (fun h34 => ?_)
        · skip
          refine go_aload_n (q := 0) (i := 0) rfl rfl dX12_wrong_46 ?_
          refine go_iload_n (q := 1) (i := 1) rfl rfl dX12_wrong_47 ?_
          refine go_putI lf12_239 rfl (Or.inl rfl) hx.o dX12_wrong_48 ?_
          refine go_aload_n (q := 0) (i := 0) rfl rfl dX12_wrong_51 ?_
          refine go_iload_n (q := 3) (i := 3) rfl rfl dX12_wrong_52 ?_
          refine go_putI lf12_242 rfl (Or.inl rfl) hx.o dX12_wrong_53 ?_
          refine go_vret rfl ⟨Nat.zero_le _, Nat.zero_le _⟩ dX12_wrong_56 ?_
          have z0 : s.1 = 0 := by omega
          obtain ⟨q1, q2, q3⟩ := hq z0
          have w0 : w.1 = 0 := by
            by_cases w0 : w.1 = 0
            · exact w0
            · exfalso
              have hp := q2 w0
              rcases ho z0 w0 with g | ⟨g1, g2⟩
              · have := hpu _ _ g hj
                omega
              · have := congrArg (pG B n z) g1
                omega
          rw [wq_t True.intro w0]
          refine ⟨rfl, ⟨?_, fun _ => ?_, fun q => absurd z0 q, h.2.2.2.1, h.2.2.2.2.1, ?_⟩, fun _ => ⟨?_, fun _ => ?_, hc.2⟩, ⟨Fx.I (Fx.I Fx.rf rfl) rfl, fun k a b d e f => ?_⟩⟩
          · rw [gI_s, upd_ne (by decide), gI_s, upd_ne (by decide)]; exact h.1
          · rw [gI_s, upd_ne (by decide), gI_s, upd_ne (by decide)]; exact h.2.1 z0
          · obtain ⟨a, a1, a2⟩ := h.2.2.2.2.2
            exact ⟨a, a1, by rw [gI_s, upd_ne (by decide), gI_s, upd_ne (by decide)]; exact a2⟩
          · rw [gI_s, upd_ne (by decide), gI_s, upd_same]
          · rw [gI_s, upd_same]
          · rw [gI_s, upd_ne f, gI_s, upd_ne e]
        · skip
          refine go_iload_n (q := 1) (i := 1) rfl rfl dX12_wrong_37 ?_
          refine go_aload_n (q := 0) (i := 0) rfl rfl dX12_wrong_38 ?_
          refine go_getI lf12_239 rfl hx.o dX12_wrong_39 ?_
          rw [(hq z0).1]
          refine gn_lt (by omega) (by omega) (tgt := 46) dX12_wrong_42 (by decide) (fun h42 => ?_) (fun h42 => ?_)
          · skip
            refine go_aload_n (q := 0) (i := 0) rfl rfl dX12_wrong_46 ?_
            refine go_iload_n (q := 1) (i := 1) rfl rfl dX12_wrong_47 ?_
            refine go_putI lf12_239 rfl (Or.inl rfl) hx.o dX12_wrong_48 ?_
            refine go_aload_n (q := 0) (i := 0) rfl rfl dX12_wrong_51 ?_
            refine go_iload_n (q := 3) (i := 3) rfl rfl dX12_wrong_52 ?_
            refine go_putI lf12_242 rfl (Or.inl rfl) hx.o dX12_wrong_53 ?_
            refine go_vret rfl ⟨Nat.zero_le _, Nat.zero_le _⟩ dX12_wrong_56 ?_
            have z0 : s.1 = 0 := by omega
            obtain ⟨q1, q2, q3⟩ := hq z0
            have w0 : w.1 = 0 := by
              by_cases w0 : w.1 = 0
              · exact w0
              · exfalso
                have hp := q2 w0
                rcases ho z0 w0 with g | ⟨g1, g2⟩
                · have := hpu _ _ g hj
                  omega
                · have := congrArg (pG B n z) g1
                  omega
            rw [wq_t True.intro w0]
            refine ⟨rfl, ⟨?_, fun _ => ?_, fun q => absurd z0 q, h.2.2.2.1, h.2.2.2.2.1, ?_⟩, fun _ => ⟨?_, fun _ => ?_, hc.2⟩, ⟨Fx.I (Fx.I Fx.rf rfl) rfl, fun k a b d e f => ?_⟩⟩
            · rw [gI_s, upd_ne (by decide), gI_s, upd_ne (by decide)]; exact h.1
            · rw [gI_s, upd_ne (by decide), gI_s, upd_ne (by decide)]; exact h.2.1 z0
            · obtain ⟨a, a1, a2⟩ := h.2.2.2.2.2
              exact ⟨a, a1, by rw [gI_s, upd_ne (by decide), gI_s, upd_ne (by decide)]; exact a2⟩
            · rw [gI_s, upd_ne (by decide), gI_s, upd_same]
            · rw [gI_s, upd_same]
            · rw [gI_s, upd_ne f, gI_s, upd_ne e]
          · skip
            refine go_vret rfl ⟨Nat.zero_le _, Nat.zero_le _⟩ dX12_wrong_45 ?_
            have z0 : s.1 = 0 := by omega
            obtain ⟨q1, q2, q3⟩ := hq z0
            refine ⟨rfl, h, hq.e (fun _ => wq_s ?_), FW.rf⟩
            omega
set_option maxRecDepth 100000 in
set_option maxHeartbeats 8000000 in
theorem ex_bounded {m : Me} {B : Nat → Nat} {n z : Nat} {s w : Nat × Nat} (hx : Wf12 m.1 (gR m)) (hT : TkR m B n z) (h : GM m B n z s) (hq : WQ m B n z s w) (hpu : PuG B n z) (hn : n ≤ 2000) (hV : ∀ j, kG B n z j = 24 → vG B n z j < 65536) {a b : Nat} (ha6 : a < 65536) (hb6 : b < 65536) (ho : s.1 = 0 → Wo w 5 s.2) : Ev mX12_bounded [.ref 274, .int (nI a), .int (nI b)] m (fun o m' => (∃ v, o = some (.int v) ∧ ((gTk (kG B n z) 24 s).1 = 0 → v = nI (vG B n z s.2))) ∧ GM m' B n z (gTk (kG B n z) 24 s) ∧ WQ m' B n z (gTk (kG B n z) 24 s) (wq (vG B n z s.2 < a ∨ b < vG B n z s.2) 5 s.2 w) ∧ FW m m') := by
  refine ⟨plmX12_bounded, nle rfl, ?_⟩
  obtain ⟨a0, haz, hm⟩ := h.2.2.2.2.2
  have hz := hT.2.1
  have hs9 := h.2.2.2.1
  have hs2 := h.2.2.2.2.1
  refine go_aload_n (q := 0) (i := 0) rfl rfl dX12_bounded_0 ?_
  refine go_getI lf12_230 rfl hx.o dX12_bounded_1 ?_
  rw [h.1]
  refine gz_gt (by omega) (tgt := 15) dX12_bounded_4 (by decide) (fun h4 => ?_) (fun h4 => ?_)
  · skip
    refine go_aload_n (q := 0) (i := 0) rfl rfl dX12_bounded_15 ?_
    refine go_iconst (v := nI 1) (by decide) dX12_bounded_16 ?_
    refine go_callV okmX12_fail lmX12_245 ⟨nle rfl, nle rfl⟩ hx.o ⟨by decide, rfl⟩ (ex_gfail hx hT h (c := 1) (by decide)) npmX12_fail rfl (nle rfl) ⟨nle rfl, nle rfl⟩ dX12_bounded_17 ?_
    rintro _ m1 ⟨rfl, f1, f2⟩
    refine go_c0 ?_
    refine go_iload_n (q := 1) (i := 1) rfl rfl dX12_bounded_20 ?_
    refine go_iret rfl ⟨Nat.zero_le _, Nat.zero_le _⟩ dX12_bounded_21 ?_
    rw [gTk_1 (K := kG B n z) (k := 24) (s := s) (fun q w => by omega)] at f1
    have hne : (gTk (kG B n z) 24 s).1 ≠ 0 := fun q => by have := (gTk_z q).1; omega
    exact ⟨⟨_, rfl, fun q => absurd q hne⟩, f1, fun q => absurd q hne, f2.fw⟩
  · skip
    refine go_aload_n (q := 0) (i := 0) rfl rfl dX12_bounded_7 ?_
    refine go_iconst (v := nI 2) (by decide) dX12_bounded_8 ?_
    refine go_callV okmX12_is lmX12_248 ⟨nle rfl, nle rfl⟩ hx.o ⟨by decide, rfl⟩ (ex_is hx hT h (k := 24) (by decide)) npmX12_is rfl (nle rfl) ⟨nle rfl, nle rfl⟩ dX12_bounded_9 ?_
    rintro _ mz ⟨rfl, hz⟩
    subst mz
    by_cases hs : s.1 = 0 ∧ kG B n z s.2 = 24
    · skip
      rw [if_pos hs]
      refine go_c1 ?_
      refine gz_ne (by omega) (tgt := 22) dX12_bounded_12 (by decide) (fun h12 => ?_) (fun h12 => by exfalso; omega)
      refine go_aload_n (q := 0) (i := 0) rfl rfl dX12_bounded_22 ?_
      refine go_getR lf12_27 rfl hx.o hx.r7 dX12_bounded_23 ?_
      refine go_aload_n (q := 0) (i := 0) rfl rfl dX12_bounded_26 ?_
      refine go_getI lf12_233 rfl hx.o dX12_bounded_27 ?_
      rw [h.2.1 hs.1]
      refine go_iald (j := s.2) hx.i7 (by omega) (by first | decide | omega) rfl dX12_bounded_30 ?_
      rw [show gI m 279 s.2 = nI (vG B n z s.2) by unfold vG; rw [if_pos hs2]; exact (hT.2.2.2 s.2 hs2).2.2.1 (by have := hs.2; unfold kG at this; rw [if_pos hs2] at this; exact this)]
      have hv := hV _ hs.2
      refine go_istore_n (q := 3) (i := 3) rfl dX12_bounded_31 (nle rfl) (nle rfl) ?_
      refine go_iload_n (q := 3) (i := 3) rfl rfl dX12_bounded_32 ?_
      refine go_iload_n (q := 1) (i := 1) rfl rfl dX12_bounded_33 ?_
      refine gn_lt (by omega) (by omega) (tgt := 42) dX12_bounded_34 (by decide) (fun h34 => ?_) (fun h34 => ?_)
      · skip
        refine go_aload_n (q := 0) (i := 0) rfl rfl dX12_bounded_42 ?_
        refine go_iconst (v := nI 5) (by decide) dX12_bounded_43 ?_
        refine go_aload_n (q := 0) (i := 0) rfl rfl dX12_bounded_44 ?_
        refine go_getI lf12_233 rfl hx.o dX12_bounded_45 ?_
        rw [h.2.1 hs.1]
        refine go_callV okmX12_wrong lmX12_282 ⟨nle rfl, nle rfl⟩ hx.o ⟨by decide, rfl⟩ (ex_wrong hx hT h hq hpu hn (c := 5) (by decide) hs2 ho) npmX12_wrong rfl (nle rfl) ⟨nle rfl, nle rfl⟩ dX12_bounded_48 ?_
        rintro _ m1 ⟨rfl, f1, f2, f3⟩
        have h := f1
        have hx := f3.wf hx
        have hT := f3.tk hT
        refine go_c0 ?_
        refine go_aload_n (q := 0) (i := 0) rfl rfl dX12_bounded_51 ?_
        refine go_callV okmX12_goesOn lmX12_251 ⟨nle rfl, nle rfl⟩ hx.o ⟨by decide, rfl⟩ (ex_goesOn hx hT h (fun b hb hm2 => by rw [show b = s.2 from nI_i (hm2.symm.trans (h.2.1 hs.1)) (by omega) (by omega), hs.2]; decide)) npmX12_goesOn rfl (nle rfl) ⟨nle rfl, nle rfl⟩ dX12_bounded_52 ?_
        rintro _ m2 ⟨rfl, g1, g2⟩
        refine go_c0 ?_
        refine go_iload_n (q := 3) (i := 3) rfl rfl dX12_bounded_55 ?_
        refine go_iret rfl ⟨Nat.zero_le _, Nat.zero_le _⟩ dX12_bounded_56 ?_
        rw [gGo_t (K := kG B n z) (k := 24) (fun _ => hs.2)] at g1
        rw [wq_e (d := True) (by simp only [iff_true]; omega)]
        exact ⟨⟨_, rfl, fun _ => rfl⟩, g1, f2.fq g2 gTk_s, f3.tr g2.fw⟩
      · skip
        refine go_iload_n (q := 3) (i := 3) rfl rfl dX12_bounded_37 ?_
        refine go_iload_n (q := 2) (i := 2) rfl rfl dX12_bounded_38 ?_
        refine gn_le (by omega) (by omega) (tgt := 51) dX12_bounded_39 (by decide) (fun h39 => ?_) (fun h39 => ?_)
        · skip
          refine go_aload_n (q := 0) (i := 0) rfl rfl dX12_bounded_51 ?_
          refine go_callV okmX12_goesOn lmX12_251 ⟨nle rfl, nle rfl⟩ hx.o ⟨by decide, rfl⟩ (ex_goesOn hx hT h (fun b hb hm2 => by rw [show b = s.2 from nI_i (hm2.symm.trans (h.2.1 hs.1)) (by omega) (by omega), hs.2]; decide)) npmX12_goesOn rfl (nle rfl) ⟨nle rfl, nle rfl⟩ dX12_bounded_52 ?_
          rintro _ m2 ⟨rfl, g1, g2⟩
          refine go_c0 ?_
          refine go_iload_n (q := 3) (i := 3) rfl rfl dX12_bounded_55 ?_
          refine go_iret rfl ⟨Nat.zero_le _, Nat.zero_le _⟩ dX12_bounded_56 ?_
          rw [gGo_t (K := kG B n z) (k := 24) (fun _ => hs.2)] at g1
          rw [wq_n (by omega)]
          exact ⟨⟨_, rfl, fun _ => rfl⟩, g1, hq.fq g2 gTk_s, g2.fw⟩
        · skip
          refine go_aload_n (q := 0) (i := 0) rfl rfl dX12_bounded_42 ?_
          refine go_iconst (v := nI 5) (by decide) dX12_bounded_43 ?_
          refine go_aload_n (q := 0) (i := 0) rfl rfl dX12_bounded_44 ?_
          refine go_getI lf12_233 rfl hx.o dX12_bounded_45 ?_
          rw [h.2.1 hs.1]
          refine go_callV okmX12_wrong lmX12_282 ⟨nle rfl, nle rfl⟩ hx.o ⟨by decide, rfl⟩ (ex_wrong hx hT h hq hpu hn (c := 5) (by decide) hs2 ho) npmX12_wrong rfl (nle rfl) ⟨nle rfl, nle rfl⟩ dX12_bounded_48 ?_
          rintro _ m1 ⟨rfl, f1, f2, f3⟩
          have h := f1
          have hx := f3.wf hx
          have hT := f3.tk hT
          refine go_c0 ?_
          refine go_aload_n (q := 0) (i := 0) rfl rfl dX12_bounded_51 ?_
          refine go_callV okmX12_goesOn lmX12_251 ⟨nle rfl, nle rfl⟩ hx.o ⟨by decide, rfl⟩ (ex_goesOn hx hT h (fun b hb hm2 => by rw [show b = s.2 from nI_i (hm2.symm.trans (h.2.1 hs.1)) (by omega) (by omega), hs.2]; decide)) npmX12_goesOn rfl (nle rfl) ⟨nle rfl, nle rfl⟩ dX12_bounded_52 ?_
          rintro _ m2 ⟨rfl, g1, g2⟩
          refine go_c0 ?_
          refine go_iload_n (q := 3) (i := 3) rfl rfl dX12_bounded_55 ?_
          refine go_iret rfl ⟨Nat.zero_le _, Nat.zero_le _⟩ dX12_bounded_56 ?_
          rw [gGo_t (K := kG B n z) (k := 24) (fun _ => hs.2)] at g1
          rw [wq_e (d := True) (by simp only [iff_true]; omega)]
          exact ⟨⟨_, rfl, fun _ => rfl⟩, g1, f2.fq g2 gTk_s, f3.tr g2.fw⟩
    · skip
      rw [if_neg hs]
      refine go_c1 ?_
      refine gz_ne (by omega) (tgt := 22) dX12_bounded_12 (by decide) (fun h12 => by exfalso; omega) (fun h12 => ?_)
      refine go_aload_n (q := 0) (i := 0) rfl rfl dX12_bounded_15 ?_
      refine go_iconst (v := nI 1) (by decide) dX12_bounded_16 ?_
      refine go_callV okmX12_fail lmX12_245 ⟨nle rfl, nle rfl⟩ hx.o ⟨by decide, rfl⟩ (ex_gfail hx hT h (c := 1) (by decide)) npmX12_fail rfl (nle rfl) ⟨nle rfl, nle rfl⟩ dX12_bounded_17 ?_
      rintro _ m1 ⟨rfl, f1, f2⟩
      refine go_c0 ?_
      refine go_iload_n (q := 1) (i := 1) rfl rfl dX12_bounded_20 ?_
      refine go_iret rfl ⟨Nat.zero_le _, Nat.zero_le _⟩ dX12_bounded_21 ?_
      rw [gTk_1 (K := kG B n z) (k := 24) (s := s) (fun q w => hs ⟨q, w⟩)] at f1
      have hne : (gTk (kG B n z) 24 s).1 ≠ 0 := fun q => hs ⟨(gTk_z q).1, (gTk_z q).2.1⟩
      exact ⟨⟨_, rfl, fun q => absurd q hne⟩, f1, fun q => absurd q hne, f2.fw⟩
