theorem cmp_le0 {a : Nat} (h : a < 2 ^ 60) : lg_cmp (lN a) 0 ≤ 0 ↔ a = 0 := by
  by_cases q : a = 0
  · subst q
    exact ⟨fun _ => rfl, fun _ => by decide⟩
  · unfold lg_cmp
    rw [if_pos (show lN a > 0 from (pk_lLT (a := 0) (by decide) (by omega)).mpr (by omega))]
    exact ⟨fun w => absurd w (by decide), fun w => absurd w q⟩
theorem lk_i {l k : List Nat} (h : ltO l) (h8 : l.length ≤ 8) (j : ltO k) (j8 : k.length ≤ 8) : lN (nkM l) = lN (nkM k) ↔ l = k := by rw [← cmp_0, nm_M h h8 j j8]
/-- the names, as the reference holds them -/
def NmM (m : Me) (D : Dr) : Prop := (∀ k, k < D.n 2 + D.n 3 → (∃ h, h < D.n 2 ∧ gJ m 282 k = lN (nkM (D.nm 0 h)) ∧ gI m 283 k = nI h) ∨ ∃ u, u < D.n 3 ∧ gJ m 282 k = lN (nkM (D.nm 1 u)) ∧ gI m 283 k = -1) ∧ (∀ h, h < D.n 2 → ∃ k, k < D.n 2 + D.n 3 ∧ gJ m 282 k = lN (nkM (D.nm 0 h)) ∧ gI m 283 k = nI h) ∧ (∀ u, u < D.n 3 → ∃ k, k < D.n 2 + D.n 3 ∧ gJ m 282 k = lN (nkM (D.nm 1 u)))
/-- names of letters -/
def NoD (D : Dr) : Prop := (∀ h, h < D.n 2 → NmO (D.nm 0 h)) ∧ ∀ u, u < D.n 3 → NmO (D.nm 1 u)
theorem NmM.seen {m : Me} {D : Dr} {l : List Nat} (h : NmM m D) (o : NoD D) (hl : NmO l) : (∃ i, i < D.n 2 + D.n 3 ∧ gJ m 282 i = lN (nkM l)) ↔ seen D l := by
  refine ⟨fun ⟨i, hi, e⟩ => ?_, fun q => ?_⟩
  · rcases h.1 i hi with ⟨g, g1, g2, -⟩ | ⟨g, g1, g2, -⟩
    · rw [g2, lk_i (o.1 g g1).1 (o.1 g g1).2.2 hl.1 hl.2.2] at e
      exact Or.inl ⟨g, g1, e⟩
    · rw [g2, lk_i (o.2 g g1).1 (o.2 g g1).2.2 hl.1 hl.2.2] at e
      exact Or.inr ⟨g, g1, e⟩
  · rcases q with ⟨g, g1, g2⟩ | ⟨g, g1, g2⟩
    · obtain ⟨k, k1, k2, -⟩ := h.2.1 g g1
      exact ⟨k, k1, by rw [k2, g2]⟩
    · obtain ⟨k, k1, k2⟩ := h.2.2 g g1
      exact ⟨k, k1, by rw [k2, g2]⟩
theorem fnd_u {D : Dr} {l : List Nat} {h : Nat} (hm : NmD D) (h1 : h < D.n 2) (h2 : D.nm 0 h = l) : fnd D l = h := fnd_i (by omega) (fun j hj q => by have := hm j h (by omega) h1 (q.trans h2.symm); omega) (fun _ => h2)
theorem Wo.lt {w : Nat × Nat} {c j : Nat} (h : w.1 ≠ 0 → w.2 < j) : Wo w c j := fun q => Or.inl (h q)
theorem Wo.wq {w : Nat × Nat} {c j : Nat} {a : Prop} (h : w.1 ≠ 0 → w.2 < j) : Wo (wq a c j w) c j := fun q => by
  by_cases w0 : w.1 = 0
  · by_cases ha : a
    · rw [wq_t ha w0]; exact Or.inr ⟨rfl, Nat.le_refl _⟩
    · rw [wq_n ha] at q; exact absurd w0 q
  · rw [wq_s w0]; exact Or.inl (h w0)
theorem wq_lt {w : Nat × Nat} {c j : Nat} {a : Prop} (h : w.1 ≠ 0 → w.2 < j) : (wq a c j w).1 ≠ 0 → (wq a c j w).2 < j + 1 := fun q => by
  by_cases w0 : w.1 = 0
  · by_cases ha : a
    · rw [wq_t ha w0]; exact Nat.lt_succ_self j
    · rw [wq_n ha] at q; exact absurd w0 q
  · rw [wq_s w0]; have := h w0; omega
set_option maxRecDepth 100000 in
set_option maxHeartbeats 8000000 in
theorem ex_named {m : Me} {B : Nat → Nat} {n z : Nat} {s w : Nat × Nat} (hx : Wf12 m.1 (gR m)) (hT : TkR m B n z) (h : GM m B n z s) (hq : WQ m B n z s w) (hpu : PuG B n z) (hn : n ≤ 2000) {D : Dr} (hN : gI m 274 20 = nI (D.n 2 + D.n 3)) (hN10 : D.n 2 + D.n 3 ≤ 10) (hNm : w.1 = 0 → NmM m D ∧ NoD D) (hnm : kG B n z s.2 = 23 → NmO (tL B n s.2)) (ho : s.1 = 0 → w.1 ≠ 0 → w.2 < s.2) : Ev mX12_named [.ref 274] m (fun o m' => (∃ a, a < z ∧ o = some (.int (nI a)) ∧ (s.1 = 0 → a = s.2)) ∧ GM m' B n z (gTk (kG B n z) 23 s) ∧ WQ m' B n z (gTk (kG B n z) 23 s) (wq (seen D (tL B n s.2)) 3 s.2 w) ∧ FW m m') := by
  refine ⟨plmX12_named, nle rfl, ?_⟩
  obtain ⟨a, haz, hm⟩ := h.2.2.2.2.2
  have hz := hT.2.1
  have hs9 := h.2.2.2.1
  have hs2 := h.2.2.2.2.1
  have has : s.1 = 0 → a = s.2 := fun q => nI_i (hm.symm.trans (h.2.1 q)) (by omega) (by omega)
  have hnk : s.1 = 0 → kG B n z s.2 = 23 → gJ m 280 s.2 = lN (nkM (tL B n s.2)) := fun z0 hk => (hT.2.2.2 s.2 hs2).2.2.2 (by unfold kG at hk; rw [if_pos hs2] at hk; omega)
  have k55 : ∀ (k : Nat) (m2 : Me), GM m2 B n z (gTk (kG B n z) 23 s) → WQ m2 B n z (gTk (kG B n z) 23 s) (wq (seen D (tL B n s.2)) 3 s.2 w) → FW m m2 → Go mX12_named (fun o m' => (∃ a, a < z ∧ o = some (.int (nI a)) ∧ (s.1 = 0 → a = s.2)) ∧ GM m' B n z (gTk (kG B n z) 23 s) ∧ WQ m' B n z (gTk (kG B n z) 23 s) (wq (seen D (tL B n s.2)) 3 s.2 w) ∧ FW m m') 55 [some (.ref 274), some (.int (nI a)), some (.int (nI k))] [] m2 0 0 := by
    intro k m2 h1 hq1 fw
    refine go_iload_n (q := 1) (i := 1) rfl rfl dX12_named_55 ?_
    refine go_iret rfl ⟨Nat.zero_le _, Nat.zero_le _⟩ dX12_named_56 ?_
    exact ⟨⟨a, haz, rfl, has⟩, h1, hq1, fw⟩
  have key : ∀ k, k ≤ D.n 2 + D.n 3 → ∀ (m2 : Me), GM m2 B n z (gTk (kG B n z) 23 s) → WQ m2 B n z (gTk (kG B n z) 23 s) (wq (∃ i, i < k ∧ gJ m 282 i = gJ m 280 a) 3 s.2 w) → FW m m2 → Go mX12_named (fun o m' => (∃ a, a < z ∧ o = some (.int (nI a)) ∧ (s.1 = 0 → a = s.2)) ∧ GM m' B n z (gTk (kG B n z) 23 s) ∧ WQ m' B n z (gTk (kG B n z) 23 s) (wq (seen D (tL B n s.2)) 3 s.2 w) ∧ FW m m') 12 [some (.ref 274), some (.int (nI a)), some (.int (nI k))] [] m2 0 0 := by
    refine loop_up (D.n 2 + D.n 3) ?_ ?_
    · intro m2 h1 hq1 fw
      have hx := fw.wf hx
      have hT2 := fw.tk hT
      have h9 := h1.2.2.2.1
      have hn2 : gI m2 274 20 = nI (D.n 2 + D.n 3) := (fw.2 20 (by decide) (by decide) (by decide) (by decide) (by decide)).trans hN
      refine go_iload_n (q := 2) (i := 2) rfl rfl dX12_named_12 ?_
      refine go_aload_n (q := 0) (i := 0) rfl rfl dX12_named_13 ?_
      refine go_getI lf12_266 rfl hx.o dX12_named_14 ?_
      rw [hn2]
      refine gn_ge (by omega) (by omega) (tgt := 55) dX12_named_17 (by decide) (fun h17 => ?_) (fun h17 => by exfalso; omega)
      refine k55 (D.n 2 + D.n 3) m2 h1 (hq1.e (fun q => ?_)) fw
      have z0 := gTk_s q
      rw [has z0]
      by_cases w0 : w.1 = 0
      · refine wq_e ?_
        rw [hnk z0 (gTk_z q).2.1]
        exact ((hNm w0).1.seen (hNm w0).2 (hnm (gTk_z q).2.1)).symm
      · rw [wq_s w0, wq_s w0]
    · intro k hk ih m2 h1 hq1 fw
      have hx := fw.wf hx
      have hT2 := fw.tk hT
      have h9 := h1.2.2.2.1
      have hn2 : gI m2 274 20 = nI (D.n 2 + D.n 3) := (fw.2 20 (by decide) (by decide) (by decide) (by decide) (by decide)).trans hN
      refine go_iload_n (q := 2) (i := 2) rfl rfl dX12_named_12 ?_
      refine go_aload_n (q := 0) (i := 0) rfl rfl dX12_named_13 ?_
      refine go_getI lf12_266 rfl hx.o dX12_named_14 ?_
      rw [hn2]
      refine gn_ge (by omega) (by omega) (tgt := 55) dX12_named_17 (by decide) (fun h17 => by exfalso; omega) (fun h17 => ?_)
      refine go_aload_n (q := 0) (i := 0) rfl rfl dX12_named_20 ?_
      refine go_getI lf12_230 rfl hx.o dX12_named_21 ?_
      rw [h1.1]
      refine gz_ne (by omega) (tgt := 55) dX12_named_24 (by decide) (fun h24 => ?_) (fun h24 => ?_)
      · skip
        exact k55 _ m2 h1 (fun q => absurd q (by omega)) fw
      · skip
        refine go_aload_n (q := 0) (i := 0) rfl rfl dX12_named_27 ?_
        refine go_getR lf12_40 rfl hx.o hx.r21 dX12_named_28 ?_
        refine go_iload_n (q := 2) (i := 2) rfl rfl dX12_named_31 ?_
        refine go_lald (j := k) hx.i21 (by omega) (by first | decide | omega) rfl dX12_named_32 ?_
        rw [fw.1.aj (fun a => a)]
        refine go_aload_n (q := 0) (i := 0) rfl rfl dX12_named_33 ?_
        refine go_getR lf12_30 rfl hx.o hx.r8 dX12_named_34 ?_
        refine go_iload_n (q := 1) (i := 1) rfl rfl dX12_named_37 ?_
        refine go_lald (j := a) hx.i8 (by omega) (by first | decide | omega) rfl dX12_named_38 ?_
        rw [fw.1.aj (fun a => a)]
        refine go_lcmp dX12_named_39 ?_
        refine go_if_ne (tgt := 49) dX12_named_40 (by decide) (fun h40 => ?_) (fun h40 => ?_)
        · skip
          refine gn_inc (i := 2) (a := k) (q := 1) rfl dX12_named_49 (nle rfl) rfl ?_
          refine go_goto (tgt := 12) dX12_named_52 (by decide) ?_
          refine ih m2 h1 (hq1.e (fun _ => wq_e ?_)) fw
          exact ⟨fun ⟨i, i1, i2⟩ => ⟨i, by
            by_cases e : i = k
            · rw [e] at i2; exact absurd (cmp_0.mpr i2) h40
            · omega, i2⟩, fun ⟨i, i1, i2⟩ => ⟨i, by omega, i2⟩⟩
        · skip
          refine go_aload_n (q := 0) (i := 0) rfl rfl dX12_named_43 ?_
          refine go_iconst (v := nI 3) (by decide) dX12_named_44 ?_
          refine go_iload_n (q := 1) (i := 1) rfl rfl dX12_named_45 ?_
          refine go_callV okmX12_wrong lmX12_282 ⟨nle rfl, nle rfl⟩ hx.o ⟨by decide, rfl⟩ (ex_wrong hx hT2 h1 hq1 hpu hn (c := 3) (by decide) (j := a) haz (fun q => by have z0 := gTk_s q; rw [has z0]; exact Wo.wq (ho z0))) npmX12_wrong rfl (nle rfl) ⟨nle rfl, nle rfl⟩ dX12_named_46 ?_
          rintro _ m3 ⟨rfl, f1, f2, f3⟩
          have f2 : WQ m3 B n z (gTk (kG B n z) 23 s) (wq True 3 s.2 (wq (∃ i, i < k ∧ gJ m 282 i = gJ m 280 a) 3 s.2 w)) := f2.e (fun q => by rw [has (gTk_s q)])
          refine go_c0 ?_
          refine gn_inc (i := 2) (a := k) (q := 1) rfl dX12_named_49 (nle rfl) rfl ?_
          refine go_goto (tgt := 12) dX12_named_52 (by decide) ?_
          refine ih m3 f1 (f2.e (fun q => ?_)) (fw.tr f3)
          rw [wq_o (by decide)]
          exact wq_e ⟨fun _ => Or.inr True.intro, fun _ => ⟨k, by omega, cmp_0.mp h40⟩⟩
  refine go_aload_n (q := 0) (i := 0) rfl rfl dX12_named_0 ?_
  refine go_getI lf12_233 rfl hx.o dX12_named_1 ?_
  rw [hm]
  refine go_istore_n (q := 1) (i := 1) rfl dX12_named_4 (nle rfl) (nle rfl) ?_
  refine go_aload_n (q := 0) (i := 0) rfl rfl dX12_named_5 ?_
  refine go_iconst (v := nI 1) (by decide) dX12_named_6 ?_
  refine go_callV okmX12_must lmX12_296 ⟨nle rfl, nle rfl⟩ hx.o ⟨by decide, rfl⟩ (ex_must hx hT h (k := 23) (by decide)) npmX12_must rfl (nle rfl) ⟨nle rfl, nle rfl⟩ dX12_named_7 ?_
  rintro _ m1 ⟨rfl, f1, f2⟩
  refine go_c0 ?_
  refine go_iconst (v := nI 0) (by decide) dX12_named_10 ?_
  refine go_istore_n (q := 2) (i := 2) rfl dX12_named_11 (nle rfl) (nle rfl) ?_
  exact key 0 (Nat.zero_le _) m1 f1 ((hq.fq f2 gTk_s).e (fun _ => wq_n (fun ⟨i, i1, _⟩ => absurd i1 (Nat.not_lt_zero i)))) f2.fw
/-- what a tell's end writes -/
def FN (m m' : Me) : Prop := Fx (fun x => x = 274 ∨ x = 283) (fun x => x = 282) m m' ∧ ∀ k, k ≠ 11 → k ≠ 13 → k ≠ 14 → k ≠ 20 → gI m' 274 k = gI m 274 k
theorem FN.tk {m m' : Me} {B : Nat → Nat} {n z : Nat} (c : FN m m') (h : TkR m B n z) : TkR m' B n z := ⟨h.1, h.2.1, h.2.2.1, fun j hj => by rw [c.1.at (by decide), c.1.at (by decide), c.1.at (by decide), c.1.aj (by decide)]; exact h.2.2.2 j hj⟩
theorem FN.wf {m m' : Me} (c : FN m m') (h : Wf12 m.1 (gR m)) : Wf12 m'.1 (gR m') := c.1.to (F := Wf12) h
theorem Fq.fn {m m' : Me} (c : Fq m m') : FN m m' := ⟨c.1.mn (fun x h => Or.inl h) (fun x h => h.elim), fun k a b d _ => c.2 k a b d⟩
set_option maxRecDepth 100000 in
set_option maxHeartbeats 8000000 in
theorem ex_ends {m : Me} {B : Nat → Nat} {n z : Nat} {s : Nat × Nat} (hx : Wf12 m.1 (gR m)) (hT : TkR m B n z) (h : GM m B n z s) {N t : Nat} {v : Int32} (hN : gI m 274 20 = nI N) (hN10 : N < 10) (ht : t < z) : Ev mX12_ends [.ref 274, .int (nI t), .int v] m (fun o m' => o = none ∧ GM m' B n z (gTk (kG B n z) 25 s) ∧ FN m m' ∧ ((gTk (kG B n z) 25 s).1 = 0 → gJ m' 282 = vp_updL (gJ m 282) N (gJ m 280 t) ∧ gI m' 283 = upd (gI m 283) N v ∧ gI m' 274 20 = nI (N + 1))) := by
  refine ⟨plmX12_ends, nle rfl, ?_⟩
  have hz := hT.2.1
  refine go_aload_n (q := 0) (i := 0) rfl rfl dX12_ends_0 ?_
  refine go_iconst (v := nI 4) (by decide) dX12_ends_1 ?_
  refine go_callV okmX12_must lmX12_296 ⟨nle rfl, nle rfl⟩ hx.o ⟨by decide, rfl⟩ (ex_must hx hT h (k := 25) (by decide)) npmX12_must rfl (nle rfl) ⟨nle rfl, nle rfl⟩ dX12_ends_2 ?_
  rintro _ m1 ⟨rfl, f1, f2⟩
  have hx := f2.wf hx
  have h9 := f1.2.2.2.1
  have hn1 : gI m1 274 20 = nI N := (f2.2 20 (by decide) (by decide) (by decide)).trans hN
  refine go_c0 ?_
  refine go_aload_n (q := 0) (i := 0) rfl rfl dX12_ends_5 ?_
  refine go_getI lf12_230 rfl hx.o dX12_ends_6 ?_
  rw [f1.1]
  refine gz_le (by omega) (tgt := 13) dX12_ends_9 (by decide) (fun h9 => ?_) (fun h9 => ?_)
  · skip
    refine go_aload_n (q := 0) (i := 0) rfl rfl dX12_ends_13 ?_
    refine go_getR lf12_40 rfl hx.o hx.r21 dX12_ends_14 ?_
    refine go_aload_n (q := 0) (i := 0) rfl rfl dX12_ends_17 ?_
    refine go_getI lf12_266 rfl hx.o dX12_ends_18 ?_
    rw [hn1]
    refine go_aload_n (q := 0) (i := 0) rfl rfl dX12_ends_21 ?_
    refine go_getR lf12_30 rfl hx.o hx.r8 dX12_ends_22 ?_
    refine go_iload_n (q := 1) (i := 1) rfl rfl dX12_ends_25 ?_
    refine go_lald (j := t) hx.i8 (by omega) (by first | decide | omega) rfl dX12_ends_26 ?_
    refine go_last (j := N) hx.i21 (by omega) (by first | decide | omega) rfl dX12_ends_27 ?_
    refine go_aload_n (q := 0) (i := 0) rfl rfl dX12_ends_28 ?_
    refine go_getR lf12_43 rfl hx.o hx.r22 dX12_ends_29 ?_
    refine go_aload_n (q := 0) (i := 0) rfl rfl dX12_ends_32 ?_
    refine go_getI lf12_266 rfl hx.o dX12_ends_33 ?_
    rw [gI_J, hn1]
    refine go_iload_n (q := 2) (i := 2) rfl rfl dX12_ends_36 ?_
    refine go_iast (j := N) hx.i22 (by omega) (by first | decide | omega) rfl dX12_ends_37 ?_
    refine go_aload_n (q := 0) (i := 0) rfl rfl dX12_ends_38 ?_
    refine go_dup rfl dX12_ends_39 ?_
    refine go_getI lf12_266 rfl hx.o dX12_ends_40 ?_
    rw [gI_n (by decide), gI_J, hn1]
    refine go_iconst (v := nI 1) (by decide) dX12_ends_43 ?_
    refine gn_add dX12_ends_44 ?_
    refine go_putI lf12_266 rfl (Or.inl rfl) hx.o dX12_ends_45 ?_
    refine go_vret rfl ⟨Nat.zero_le _, Nat.zero_le _⟩ dX12_ends_48 ?_
    refine ⟨rfl, ⟨?_, fun q => ?_, fun q => ?_, f1.2.2.2.1, f1.2.2.2.2.1, ?_⟩, ⟨Fx.I (Fx.I (Fx.J (f2.1.mn (fun x h => Or.inl h) (fun x h => h.elim)) rfl) (Or.inr rfl)) (Or.inl rfl), fun k a b c d => ?_⟩, fun _ => ⟨?_, ?_, ?_⟩⟩
    · rw [gI_s, upd_ne (by decide), gI_n (by decide), gI_J]; exact f1.1
    · rw [gI_s, upd_ne (by decide), gI_n (by decide), gI_J]; exact f1.2.1 q
    · rw [gI_s, upd_ne (by decide), gI_n (by decide), gI_J]; exact f1.2.2.1 q
    · obtain ⟨a, a1, a2⟩ := f1.2.2.2.2.2
      exact ⟨a, a1, by rw [gI_s, upd_ne (by decide), gI_n (by decide), gI_J]; exact a2⟩
    · rw [gI_s, upd_ne d, gI_n (by decide), gI_J]; exact f2.2 k a b c
    · rw [gJ_I, gJ_I, gJ_s, f2.1.aj (fun a => a), f2.1.aj (fun a => a)]
    · rw [gI_n (by decide), gI_s, f2.1.at (by decide)]
    · rw [gI_s, upd_same]
  · skip
    refine go_vret rfl ⟨Nat.zero_le _, Nat.zero_le _⟩ dX12_ends_12 ?_
    exact ⟨rfl, f1, f2.fn, fun q => by omega⟩
set_option maxRecDepth 100000 in
set_option maxHeartbeats 8000000 in
theorem ex_known {m : Me} {B : Nat → Nat} {n z : Nat} {s w : Nat × Nat} (hx : Wf12 m.1 (gR m)) (hT : TkR m B n z) (h : GM m B n z s) (hq : WQ m B n z s w) (hpu : PuG B n z) (hn : n ≤ 2000) {D : Dr} (hN : gI m 274 20 = nI (D.n 2 + D.n 3)) (hN10 : D.n 2 + D.n 3 ≤ 10) (hNm : w.1 = 0 → NmM m D ∧ NoD D) (hMd : w.1 = 0 → NmD D) (hnm : kG B n z s.2 = 23 → NmO (tL B n s.2)) (ho : s.1 = 0 → w.1 ≠ 0 → w.2 < s.2) : Ev mX12_knownHolding [.ref 274] m (fun o m' => (∃ v, o = some (.int v) ∧ ((gTk (kG B n z) 23 s).1 = 0 → w.1 = 0 → v = if fnd D (tL B n s.2) < D.n 2 then nI (fnd D (tL B n s.2)) else -1)) ∧ GM m' B n z (gTk (kG B n z) 23 s) ∧ WQ m' B n z (gTk (kG B n z) 23 s) (wq (¬ fnd D (tL B n s.2) < D.n 2) 4 s.2 w) ∧ FW m m') := by
  refine ⟨plmX12_knownHolding, nle rfl, ?_⟩
  obtain ⟨a, haz, hm⟩ := h.2.2.2.2.2
  have hz := hT.2.1
  have hs9 := h.2.2.2.1
  have hs2 := h.2.2.2.2.1
  have has : s.1 = 0 → a = s.2 := fun q => nI_i (hm.symm.trans (h.2.1 q)) (by omega) (by omega)
  have hnk : s.1 = 0 → kG B n z s.2 = 23 → gJ m 280 s.2 = lN (nkM (tL B n s.2)) := fun z0 hk => (hT.2.2.2 s.2 hs2).2.2.2 (by unfold kG at hk; rw [if_pos hs2] at hk; omega)
  have key : (gTk (kG B n z) 23 s).1 = 0 → ∀ k, k ≤ D.n 2 + D.n 3 → ∀ (m2 : Me), GM m2 B n z (gTk (kG B n z) 23 s) → WQ m2 B n z (gTk (kG B n z) 23 s) w → FW m m2 → (∀ i, i < k → gJ m 282 i = gJ m 280 a → gI m 283 i < 0) → Go mX12_knownHolding (fun o m' => (∃ v, o = some (.int v) ∧ ((gTk (kG B n z) 23 s).1 = 0 → w.1 = 0 → v = if fnd D (tL B n s.2) < D.n 2 then nI (fnd D (tL B n s.2)) else -1)) ∧ GM m' B n z (gTk (kG B n z) 23 s) ∧ WQ m' B n z (gTk (kG B n z) 23 s) (wq (¬ fnd D (tL B n s.2) < D.n 2) 4 s.2 w) ∧ FW m m') 21 [some (.ref 274), some (.int (nI a)), some (.int (nI k))] [] m2 0 0 := by
    intro hz1
    have z0 := gTk_s hz1
    have hk23 := (gTk_z hz1).2.1
    refine loop_up (D.n 2 + D.n 3) ?_ ?_
    · intro m2 h1 hq1 fw hno
      have hx := fw.wf hx
      have hT2 := fw.tk hT
      have h9 := h1.2.2.2.1
      have hn2 : gI m2 274 20 = nI (D.n 2 + D.n 3) := (fw.2 20 (by decide) (by decide) (by decide) (by decide) (by decide)).trans hN
      refine go_iload_n (q := 2) (i := 2) rfl rfl dX12_knownHolding_21 ?_
      refine go_aload_n (q := 0) (i := 0) rfl rfl dX12_knownHolding_22 ?_
      refine go_getI lf12_266 rfl hx.o dX12_knownHolding_23 ?_
      rw [hn2]
      refine gn_ge (by omega) (by omega) (tgt := 67) dX12_knownHolding_26 (by decide) (fun h26 => ?_) (fun h26 => by exfalso; omega)
      refine go_aload_n (q := 0) (i := 0) rfl rfl dX12_knownHolding_67 ?_
      refine go_iconst (v := nI 4) (by decide) dX12_knownHolding_68 ?_
      refine go_iload_n (q := 1) (i := 1) rfl rfl dX12_knownHolding_69 ?_
      refine go_callV okmX12_wrong lmX12_282 ⟨nle rfl, nle rfl⟩ hx.o ⟨by decide, rfl⟩ (ex_wrong hx hT2 h1 hq1 hpu hn (c := 4) (by decide) (j := a) haz (fun q => by have z0 := gTk_s q; rw [has z0]; exact Wo.lt (ho z0))) npmX12_wrong rfl (nle rfl) ⟨nle rfl, nle rfl⟩ dX12_knownHolding_70 ?_
      rintro _ m3 ⟨rfl, f1, f2, f3⟩
      refine go_c0 ?_
      refine go_iconst (v := -1) (by decide) dX12_knownHolding_73 ?_
      refine go_iret rfl ⟨Nat.zero_le _, Nat.zero_le _⟩ dX12_knownHolding_74 ?_
      have key2 : w.1 = 0 → ¬ fnd D (tL B n s.2) < D.n 2 := fun w0 q => by
        obtain ⟨g, g1, g2⟩ := fnd_s.mp q
        obtain ⟨k, k1, k2, k3⟩ := (hNm w0).1.2.1 g g1
        have := hno k k1 (by rw [k2, g2, has z0, hnk z0 hk23])
        rw [k3] at this
        exact absurd this (nI_pos (by omega))
      refine ⟨⟨_, rfl, fun _ w0 => by rw [if_neg (key2 w0)]⟩, f1, f2.e (fun _ => ?_), fw.tr f3⟩
      rw [has z0]
      by_cases w0 : w.1 = 0
      · exact wq_e ⟨fun _ => True.intro, fun _ => key2 w0⟩
      · rw [wq_s w0, wq_s w0]
    · intro k hk ih m2 h1 hq1 fw hno
      have hx := fw.wf hx
      have hT2 := fw.tk hT
      have h9 := h1.2.2.2.1
      have hn2 : gI m2 274 20 = nI (D.n 2 + D.n 3) := (fw.2 20 (by decide) (by decide) (by decide) (by decide) (by decide)).trans hN
      refine go_iload_n (q := 2) (i := 2) rfl rfl dX12_knownHolding_21 ?_
      refine go_aload_n (q := 0) (i := 0) rfl rfl dX12_knownHolding_22 ?_
      refine go_getI lf12_266 rfl hx.o dX12_knownHolding_23 ?_
      rw [hn2]
      refine gn_ge (by omega) (by omega) (tgt := 67) dX12_knownHolding_26 (by decide) (fun h26 => by exfalso; omega) (fun h26 => ?_)
      refine go_aload_n (q := 0) (i := 0) rfl rfl dX12_knownHolding_29 ?_
      refine go_getR lf12_40 rfl hx.o hx.r21 dX12_knownHolding_30 ?_
      refine go_iload_n (q := 2) (i := 2) rfl rfl dX12_knownHolding_33 ?_
      refine go_lald (j := k) hx.i21 (by omega) (by first | decide | omega) rfl dX12_knownHolding_34 ?_
      rw [fw.1.aj (fun a => a)]
      refine go_aload_n (q := 0) (i := 0) rfl rfl dX12_knownHolding_35 ?_
      refine go_getR lf12_30 rfl hx.o hx.r8 dX12_knownHolding_36 ?_
      refine go_iload_n (q := 1) (i := 1) rfl rfl dX12_knownHolding_39 ?_
      refine go_lald (j := a) hx.i8 (by omega) (by first | decide | omega) rfl dX12_knownHolding_40 ?_
      rw [fw.1.aj (fun a => a)]
      refine go_lcmp dX12_knownHolding_41 ?_
      refine go_if_ne (tgt := 61) dX12_knownHolding_42 (by decide) (fun h42 => ?_) (fun h42 => ?_)
      · skip
        refine gn_inc (i := 2) (a := k) (q := 1) rfl dX12_knownHolding_61 (nle rfl) rfl ?_
        refine go_goto (tgt := 21) dX12_knownHolding_64 (by decide) ?_
        refine ih m2 h1 hq1 fw (fun i hi e => ?_)
        by_cases q : i = k
        · rw [q] at e ⊢
          exact absurd (cmp_0.mpr e) h42
        · exact hno i (by omega) e
      · skip
        refine go_aload_n (q := 0) (i := 0) rfl rfl dX12_knownHolding_45 ?_
        refine go_getR lf12_43 rfl hx.o hx.r22 dX12_knownHolding_46 ?_
        refine go_iload_n (q := 2) (i := 2) rfl rfl dX12_knownHolding_49 ?_
        refine go_iald (j := k) hx.i22 (by omega) (by first | decide | omega) rfl dX12_knownHolding_50 ?_
        rw [fw.1.at (by decide)]
        refine go_if_lt (tgt := 61) dX12_knownHolding_51 (by decide) (fun h51 => ?_) (fun h51 => ?_)
        · skip
          refine gn_inc (i := 2) (a := k) (q := 1) rfl dX12_knownHolding_61 (nle rfl) rfl ?_
          refine go_goto (tgt := 21) dX12_knownHolding_64 (by decide) ?_
          refine ih m2 h1 hq1 fw (fun i hi e => ?_)
          by_cases q : i = k
          · rw [q] at e ⊢
            exact h51
          · exact hno i (by omega) e
        · skip
          refine go_aload_n (q := 0) (i := 0) rfl rfl dX12_knownHolding_54 ?_
          refine go_getR lf12_43 rfl hx.o hx.r22 dX12_knownHolding_55 ?_
          refine go_iload_n (q := 2) (i := 2) rfl rfl dX12_knownHolding_58 ?_
          refine go_iald (j := k) hx.i22 (by omega) (by first | decide | omega) rfl dX12_knownHolding_59 ?_
          rw [fw.1.at (by decide)]
          refine go_iret rfl ⟨Nat.zero_le _, Nat.zero_le _⟩ dX12_knownHolding_60 ?_
          have key3 : w.1 = 0 → fnd D (tL B n s.2) < D.n 2 ∧ gI m 283 k = nI (fnd D (tL B n s.2)) := fun w0 => by
            have e := cmp_0.mp h42
            rw [has z0, hnk z0 hk23] at e
            rcases (hNm w0).1.1 k hk with ⟨g, g1, g2, g3⟩ | ⟨g, g1, g2, g3⟩
            · rw [g2, lk_i ((hNm w0).2.1 g g1).1 ((hNm w0).2.1 g g1).2.2 (hnm hk23).1 (hnm hk23).2.2] at e
              have ef := fnd_u (hMd w0) g1 e
              rw [ef]
              exact ⟨g1, g3⟩
            · rw [g3] at h51
              exact absurd (show (-1 : Int32) < 0 by decide) h51
          refine ⟨⟨_, rfl, fun _ w0 => by rw [if_pos (key3 w0).1, (key3 w0).2]⟩, h1, hq1.e (fun _ => ?_), fw⟩
          by_cases w0 : w.1 = 0
          · exact wq_n (fun q => q (key3 w0).1)
          · exact wq_s w0
  refine go_aload_n (q := 0) (i := 0) rfl rfl dX12_knownHolding_0 ?_
  refine go_getI lf12_233 rfl hx.o dX12_knownHolding_1 ?_
  rw [hm]
  refine go_istore_n (q := 1) (i := 1) rfl dX12_knownHolding_4 (nle rfl) (nle rfl) ?_
  refine go_aload_n (q := 0) (i := 0) rfl rfl dX12_knownHolding_5 ?_
  refine go_iconst (v := nI 1) (by decide) dX12_knownHolding_6 ?_
  refine go_callV okmX12_must lmX12_296 ⟨nle rfl, nle rfl⟩ hx.o ⟨by decide, rfl⟩ (ex_must hx hT h (k := 23) (by decide)) npmX12_must rfl (nle rfl) ⟨nle rfl, nle rfl⟩ dX12_knownHolding_7 ?_
  rintro _ m1 ⟨rfl, f1, f2⟩
  have hx := f2.wf hx
  refine go_c0 ?_
  refine go_aload_n (q := 0) (i := 0) rfl rfl dX12_knownHolding_10 ?_
  refine go_getI lf12_230 rfl hx.o dX12_knownHolding_11 ?_
  rw [f1.1]
  have h9 := f1.2.2.2.1
  refine gz_le (by omega) (tgt := 19) dX12_knownHolding_14 (by decide) (fun h14 => ?_) (fun h14 => ?_)
  · skip
    refine go_iconst (v := nI 0) (by decide) dX12_knownHolding_19 ?_
    refine go_istore_n (q := 2) (i := 2) rfl dX12_knownHolding_20 (nle rfl) (nle rfl) ?_
    exact key (by omega) 0 (Nat.zero_le _) m1 f1 (hq.fq f2 gTk_s) f2.fw (fun i hi => absurd hi (Nat.not_lt_zero i))
  · skip
    refine go_iconst (v := -1) (by decide) dX12_knownHolding_17 ?_
    refine go_iret rfl ⟨Nat.zero_le _, Nat.zero_le _⟩ dX12_knownHolding_18 ?_
    have hne : (gTk (kG B n z) 23 s).1 ≠ 0 := by omega
    exact ⟨⟨_, rfl, fun q => absurd q hne⟩, f1, fun q => absurd q hne, f2.fw⟩
theorem nkM_dv {l : List Nat} (o : ltO l) {x : Nat} (h : x < l.length) : nkM (l.take (x + 1)) / 27 = nkM (l.take x) ∧ nkM (l.take (x + 1)) % 27 = l.getD x 0 := by
  have ht := nkM_t h
  have hd := ltO_d o h
  omega
set_option maxRecDepth 100000 in
set_option maxHeartbeats 8000000 in
theorem ex_lettersIn {m : Me} {l : List Nat} (hl : ltO l ∧ l.length ≤ 8) : Ev mX12_lettersIn [.long (lN (nkM l))] m (fun o m' => o = some (.int (nI l.length)) ∧ m' = m) := by
  refine ⟨plmX12_lettersIn, nle rfl, ?_⟩
  have hl8 := hl.2
  have key : ∀ i, i ≤ l.length → Go mX12_lettersIn (fun o m' => o = some (.int (nI l.length)) ∧ m' = m) 4 [some (.long (lN (nkM l))), none, some (.int (nI i)), some (.long (lN (nkM (l.take (l.length - i))))), none] [] m 0 0 := by
    refine loop_up l.length ?_ ?_
    · skip
      refine go_lload_n (q := 3) (i := 3) rfl rfl dX12_lettersIn_4 ?_
      refine go_lconst (v := 0) (by decide) dX12_lettersIn_5 ?_
      refine go_lcmp dX12_lettersIn_6 ?_
      refine go_if_le (tgt := 22) dX12_lettersIn_7 (by decide) (fun h7 => ?_) (fun h7 => by exfalso; exact h7 (by rw [cmp_le0 (by rw [Nat.sub_self]; show nkM [] < 2 ^ 60; decide), Nat.sub_self]; rfl))
      refine go_iload_n (q := 2) (i := 2) rfl rfl dX12_lettersIn_22 ?_
      refine go_iret rfl ⟨Nat.zero_le _, Nat.zero_le _⟩ dX12_lettersIn_23 ?_
      exact ⟨rfl, rfl⟩
    · intro i hi ih
      have hb := nkM_b (ltO_tk hl.1 (l.length - i)) (take_le hl.2 _)
      have hb60 : nkM (l.take (l.length - i)) < 2 ^ 60 := by omega
      have hps := nkM_p hl.1 (x := l.length - i) (by omega) (by omega)
      have hdv : lN (nkM (l.take (l.length - i))) / lN 27 = lN (nkM (l.take (l.length - (i + 1)))) := by
        rw [pk_lDiv (by omega) (by decide) (by decide)]
        have := (nkM_dv hl.1 (x := l.length - (i + 1)) (by omega)).1
        rw [show l.length - (i + 1) + 1 = l.length - i by omega] at this
        rw [this]
      refine go_lload_n (q := 3) (i := 3) rfl rfl dX12_lettersIn_4 ?_
      refine go_lconst (v := 0) (by decide) dX12_lettersIn_5 ?_
      refine go_lcmp dX12_lettersIn_6 ?_
      refine go_if_le (tgt := 22) dX12_lettersIn_7 (by decide) (fun h7 => by exfalso; rw [cmp_le0 hb60] at h7; omega) (fun h7 => ?_)
      refine gn_inc (i := 2) (a := i) (q := 1) rfl dX12_lettersIn_10 (nle rfl) rfl ?_
      refine go_lload_n (q := 3) (i := 3) rfl rfl dX12_lettersIn_13 ?_
      refine go_ldc2 (wg5 204 rfl rfl) dX12_lettersIn_14 ?_
      refine go_ldiv (by decide) dX12_lettersIn_17 ?_
      rw [show lN (nkM (l.take (l.length - i))) / (27 : Int64) = lN (nkM (l.take (l.length - (i + 1)))) from hdv]
      refine go_lstore_n (q := 3) (i := 3) rfl dX12_lettersIn_18 (nle rfl) (nle rfl) ?_
      refine go_goto (tgt := 4) dX12_lettersIn_19 (by decide) ?_
      exact ih
  refine go_iconst (v := nI 0) (by decide) dX12_lettersIn_0 ?_
  refine go_istore_n (q := 2) (i := 2) rfl dX12_lettersIn_1 (nle rfl) (nle rfl) ?_
  refine go_lload_n (q := 0) (i := 0) rfl rfl dX12_lettersIn_2 ?_
  refine go_lstore_n (q := 3) (i := 3) rfl dX12_lettersIn_3 (nle rfl) (nle rfl) ?_
  have k0 := key 0 (Nat.zero_le _)
  rw [Nat.sub_zero, List.take_length] at k0
  exact k0
set_option maxRecDepth 100000 in
set_option maxHeartbeats 8000000 in
theorem ex_letterIn {m : Me} {l : List Nat} {x : Nat} (hl : ltO l ∧ l.length ≤ 8) (hx : x < l.length) : Ev mX12_letterIn [.long (lN (nkM l)), .int (nI x)] m (fun o m' => o = some (.int (nI (l.getD x 0))) ∧ m' = m) := by
  refine ⟨plmX12_letterIn, nle rfl, ?_⟩
  have hl8 := hl.2
  have key : ∀ i, x + i < l.length → Go mX12_letterIn (fun o m' => o = some (.int (nI (l.getD x 0))) ∧ m' = m) 10 [some (.long (lN (nkM l))), none, some (.int (nI x)), some (.long (lN (nkM (l.take ((x + i) + 1))))), none, some (.int (nI ((x + i))))] [] m 0 0 := by
    intro i
    induction i with
    | zero =>
      intro _
      rw [Nat.add_zero]
      have hb := nkM_b (ltO_tk hl.1 (x + 1)) (take_le hl.2 _)
      have hrm : lN (nkM (l.take (x + 1))) - lN (nkM (l.take (x + 1))) / lN 27 * lN 27 = lN (l.getD x 0) := by
        rw [pk_lRem (by omega) (by decide) (by decide), (nkM_dv hl.1 hx).2]
      refine go_iload (i := 5) rfl dX12_letterIn_10 ?_
      refine go_iload_n (q := 2) (i := 2) rfl rfl dX12_letterIn_12 ?_
      refine gn_le (by omega) (by omega) (tgt := 28) dX12_letterIn_13 (by decide) (fun h13 => ?_) (fun h13 => by exfalso; omega)
      refine go_lload_n (q := 3) (i := 3) rfl rfl dX12_letterIn_28 ?_
      refine go_ldc2 (wg5 204 rfl rfl) dX12_letterIn_29 ?_
      refine go_lrem (by decide) dX12_letterIn_32 ?_
      refine go_l2i dX12_letterIn_33 ?_
      rw [show lN (nkM (l.take (x + 1))) - lN (nkM (l.take (x + 1))) / (27 : Int64) * (27 : Int64) = lN (l.getD x 0) from hrm, lN_i]
      refine go_iret rfl ⟨Nat.zero_le _, Nat.zero_le _⟩ dX12_letterIn_34 ?_
      exact ⟨rfl, rfl⟩
    | succ i ih =>
      intro hi
      have hb := nkM_b (ltO_tk hl.1 (x + (i + 1) + 1)) (take_le hl.2 _)
      have hdv : lN (nkM (l.take (x + (i + 1) + 1))) / lN 27 = lN (nkM (l.take (x + i + 1))) := by
        rw [pk_lDiv (by omega) (by decide) (by decide), (nkM_dv hl.1 (x := x + (i + 1)) hi).1]
        rfl
      refine go_iload (i := 5) rfl dX12_letterIn_10 ?_
      refine go_iload_n (q := 2) (i := 2) rfl rfl dX12_letterIn_12 ?_
      refine gn_le (by omega) (by omega) (tgt := 28) dX12_letterIn_13 (by decide) (fun h13 => by exfalso; omega) (fun h13 => ?_)
      refine go_lload_n (q := 3) (i := 3) rfl rfl dX12_letterIn_16 ?_
      refine go_ldc2 (wg5 204 rfl rfl) dX12_letterIn_17 ?_
      refine go_ldiv (by decide) dX12_letterIn_20 ?_
      rw [show lN (nkM (l.take (x + (i + 1) + 1))) / (27 : Int64) = lN (nkM (l.take (x + i + 1))) from hdv]
      refine go_lstore_n (q := 3) (i := 3) rfl dX12_letterIn_21 (nle rfl) (nle rfl) ?_
      refine go_iinc (i := 5) dX12_letterIn_22 (nle rfl) rfl ?_
      rw [nI_dn (by omega), show x + (i + 1) - 1 = x + i by omega]
      refine go_goto (tgt := 10) dX12_letterIn_25 (by decide) ?_
      exact ih (by omega)
  refine go_lload_n (q := 0) (i := 0) rfl rfl dX12_letterIn_0 ?_
  refine go_lstore_n (q := 3) (i := 3) rfl dX12_letterIn_1 (nle rfl) (nle rfl) ?_
  refine go_lload_n (q := 0) (i := 0) rfl rfl dX12_letterIn_2 ?_
  refine go_callS okmX12_lettersIn lmX12_320 ⟨nle rfl, nle rfl⟩ (ex_lettersIn hl) npmX12_lettersIn rfl (nle rfl) ⟨nle rfl, nle rfl⟩ dX12_letterIn_3 ?_
  rintro _ mz ⟨rfl, hz⟩
  subst mz
  refine go_c1 ?_
  refine go_iconst (v := nI 1) (by decide) dX12_letterIn_6 ?_
  refine gn_sub (by omega) dX12_letterIn_7 ?_
  refine go_istore (i := 5) dX12_letterIn_8 (nle rfl) (nle rfl) ?_
  have k0 := key (l.length - 1 - x) (by omega)
  rw [show x + (l.length - 1 - x) = l.length - 1 by omega, show l.length - 1 + 1 = l.length by omega, List.take_length] at k0
  exact k0
