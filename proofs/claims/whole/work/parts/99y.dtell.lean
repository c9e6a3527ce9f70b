theorem gI_J {m : Me} {a : Nat} {r : Nat → Int64} : gI (sJ m a r) = gI m := rfl
theorem gJ_I {m : Me} {a : Nat} {r : Nat → Int32} : gJ (sI m a r) = gJ m := rfl
theorem wq_o {a b : Prop} {k j : Nat} {w : Nat × Nat} (hk : k ≠ 0) : wq b k j (wq a k j w) = wq (a ∨ b) k j w := by
  by_cases h0 : w.1 = 0
  · by_cases ha : a
    · rw [wq_t ha h0, wq_t (Or.inl ha) h0, wq_s (w := (k, j)) hk]
    · rw [wq_n ha]
      exact wq_e ⟨fun h => Or.inr h, fun h => h.resolve_left ha⟩
  · rw [wq_s h0, wq_s h0, wq_s h0]
theorem owS_c {c : Nat} (h1 : 1 ≤ c) (h2 : c ≤ 26) : (owS c = -1 ↔ ¬ (c ≤ 4 ∨ c = 15)) ∧ (c ≤ 4 ∨ c = 15 → owS c = rwC c) := by
  have : ∀ c : Fin 27, 1 ≤ c.val → (owS c.val = -1 ↔ ¬ (c.val ≤ 4 ∨ c.val = 15)) ∧ (c.val ≤ 4 ∨ c.val = 15 → owS c.val = rwC c.val) := by decide
  exact this ⟨c, by omega⟩ h1
theorem all_g {l : List Nat} {p : Nat → Prop} : (∀ c ∈ l, p c) ↔ ∀ j, 0 ≤ j → j < l.length → p (l.getD j 0) := by
  refine ⟨fun h j _ hj => h _ (getD_mem hj), fun h c hc => ?_⟩
  obtain ⟨j, hj, e⟩ := List.mem_iff_getElem.mp hc
  have := h j (Nat.zero_le _) hj
  rw [List.getD_eq_getElem?_getD, List.getElem?_eq_getElem hj] at this
  rw [← e]
  exact this
theorem fnd_s {D : Dr} {l : List Nat} : fnd D l < D.n 2 ↔ ∃ h, h < D.n 2 ∧ D.nm 0 h = l := by
  have key : ∀ k a, a + k = D.n 2 → (∀ j, j < a → ¬ D.nm 0 j = l) → (enF (fun h => h < D.n 2 ∧ ¬ D.nm 0 h = l) k a < D.n 2 ↔ ∃ h, h < D.n 2 ∧ D.nm 0 h = l) := by
    intro k
    induction k with
    | zero => exact fun a ha hn => ⟨fun q => by rw [show enF (fun h => h < D.n 2 ∧ ¬ D.nm 0 h = l) 0 a = a from rfl] at q; omega, fun ⟨h, h1, h2⟩ => absurd h2 (hn h (by omega))⟩
    | succ k ih =>
      intro a ha hn
      by_cases q : D.nm 0 a = l
      · rw [enF_u (p := fun h => h < D.n 2 ∧ ¬ D.nm 0 h = l) (k + 1) a a (Nat.le_refl _) (by omega) (fun i h1 h2 => by omega) (fun w => w.2 q)]
        exact ⟨fun w => ⟨a, w, q⟩, fun _ => by omega⟩
      · have hs := ih (a + 1) (by omega) (fun j hj => by
          by_cases e : j = a
          · rw [e]; exact q
          · exact hn j (by omega))
        rw [← hs]
        show pit (a < D.n 2 ∧ ¬ D.nm 0 a = l) (enF (fun h => h < D.n 2 ∧ ¬ D.nm 0 h = l) k (a + 1)) a < D.n 2 ↔ _
        rw [pit_t (⟨by omega, q⟩ : a < D.n 2 ∧ ¬ D.nm 0 a = l)]
  exact key (D.n 2) 0 (by omega) (fun j hj => absurd hj (Nat.not_lt_zero j))
set_option maxRecDepth 100000 in
set_option maxHeartbeats 8000000 in
theorem ev_checkNew {m : Me} {B : Nat → Nat} {n z dr j : Nat} {w : Nat × Nat} {D : Dr} {l : List Nat} (hT : TkX m B n z) (hw : Wf10 m.1 (gR m) 3) (hd : Wf0 m.1 (gR m) 10) (hp : Wf7 m.1 (gR m) dr) (hf : FT m B n z w) (hc2 : gI m dr 2 = nI (D.n 2)) (hc3 : gI m dr 3 = nI (D.n 3)) (hN : NmC m D) (hj : j ≤ 2000) (hk : kG B n z j = 23) (hle : l = tL B n j) (hl : NmO l) : Ev mX0_checkNew [.ref 10, .ref dr, .ref 3, .int (nI j)] m (fun o m' => o = none ∧ FT m' B n z (wq (seen D l) 3 j w) ∧ Fz m m') := by
  refine ⟨plmX0_checkNew, nle rfl, ?_⟩
  have hn6 := hN.2.1
  have hn4 := hN.1
  have k75 : Go mX0_checkNew (fun o m' => o = none ∧ FT m' B n z (wq (seen D l) 3 j w) ∧ Fz m m') 75 [some (.ref 10), some (.ref dr), some (.ref 3), some (.int (nI j)), some (.long (lN (nkC l))), none, some (.int (pit (fnd D l < D.n 2 ∨ ∃ u, u < D.n 3 ∧ D.nm 1 u = l) (nI 1) (nI 0))), some (.int (nI (D.n 3)))] [] m 0 0 := by
    have hs : (fnd D l < D.n 2 ∨ ∃ u, u < D.n 3 ∧ D.nm 1 u = l) ↔ seen D l := by
      unfold seen
      rw [fnd_s]
    by_cases hq : fnd D l < D.n 2 ∨ ∃ u, u < D.n 3 ∧ D.nm 1 u = l
    · skip
      refine go_iload (i := 6) rfl dX0_checkNew_75 ?_
      refine go_if_eq (tgt := 90) dX0_checkNew_77 (by decide) (fun h77 => by exfalso; rw [pit_t hq] at h77; exact absurd h77 (by decide)) (fun h77 => ?_)
      refine go_aload_n (q := 2) (i := 2) rfl rfl dX0_checkNew_80 ?_
      refine go_iconst (v := nI 3) (by decide) dX0_checkNew_81 ?_
      refine go_aload_n (q := 2) (i := 2) rfl rfl dX0_checkNew_82 ?_
      refine go_iload_n (q := 3) (i := 3) rfl rfl dX0_checkNew_83 ?_
      refine go_callV okmX10_placeAt lmX0_111 ⟨nle rfl, nle rfl⟩ hw.o ⟨by decide, rfl⟩ (ev_tp hT hw hj) npmX10_placeAt rfl (nle rfl) ⟨nle rfl, nle rfl⟩ dX0_checkNew_84 ?_
      rintro _ mz ⟨rfl, hz⟩
      subst mz
      refine go_c1 ?_
      refine go_callV okmX10_fail lmX0_63 ⟨nle rfl, nle rfl⟩ hw.o ⟨by decide, rfl⟩ (ev_failw hw hf (c := 3) (by decide)) npmX10_fail rfl (nle rfl) ⟨nle rfl, nle rfl⟩ dX0_checkNew_87 ?_
      rintro _ m2 ⟨rfl, f1, f2⟩
      refine go_c0 ?_
      refine go_vret rfl ⟨Nat.zero_le _, Nat.zero_le _⟩ dX0_checkNew_90 ?_
      rw [wq_e (d := True) (by simp only [iff_true]; exact hs.mp hq)]
      exact ⟨rfl, f1, f2⟩
    · skip
      refine go_iload (i := 6) rfl dX0_checkNew_75 ?_
      refine go_if_eq (tgt := 90) dX0_checkNew_77 (by decide) (fun h77 => ?_) (fun h77 => by exfalso; exact h77 (by rw [pit_f hq]; decide))
      refine go_vret rfl ⟨Nat.zero_le _, Nat.zero_le _⟩ dX0_checkNew_90 ?_
      rw [wq_n (fun q => hq (hs.mpr q))]
      exact ⟨rfl, hf, Fz.rf⟩
  have key : ∀ i, i ≤ D.n 3 → Go mX0_checkNew (fun o m' => o = none ∧ FT m' B n z (wq (seen D l) 3 j w) ∧ Fz m m') 28 [some (.ref 10), some (.ref dr), some (.ref 3), some (.int (nI j)), some (.long (lN (nkC l))), none, some (.int (pit (fnd D l < D.n 2 ∨ ∃ u, u < i ∧ D.nm 1 u = l) (nI 1) (nI 0))), some (.int (nI i))] [] m 0 0 := by
    refine loop_up (D.n 3) ?_ ?_
    · skip
      refine go_iload (i := 7) rfl dX0_checkNew_28 ?_
      refine go_aload_n (q := 1) (i := 1) rfl rfl dX0_checkNew_30 ?_
      refine go_getI lf0_140 rfl hp.o dX0_checkNew_31 ?_
      rw [hc3]
      refine gn_ge (by omega) (by omega) (tgt := 75) dX0_checkNew_34 (by decide) (fun h34 => ?_) (fun h34 => by exfalso; omega)
      exact k75
    · intro i hi ih
      by_cases hq : fnd D l < D.n 2 ∨ ∃ u, u < i ∧ D.nm 1 u = l
      · skip
        refine go_iload (i := 7) rfl dX0_checkNew_28 ?_
        refine go_aload_n (q := 1) (i := 1) rfl rfl dX0_checkNew_30 ?_
        refine go_getI lf0_140 rfl hp.o dX0_checkNew_31 ?_
        rw [hc3]
        refine gn_ge (by omega) (by omega) (tgt := 75) dX0_checkNew_34 (by decide) (fun h34 => by exfalso; omega) (fun h34 => ?_)
        refine go_iload (i := 7) rfl dX0_checkNew_37 ?_
        refine go_bipush (v := nI 6) (by decide) dX0_checkNew_39 ?_
        refine gn_ge (by omega) (by omega) (tgt := 75) dX0_checkNew_41 (by decide) (fun h41 => by exfalso; omega) (fun h41 => ?_)
        refine go_iload (i := 6) rfl dX0_checkNew_44 ?_
        refine go_if_ne (tgt := 62) dX0_checkNew_46 (by decide) (fun h46 => ?_) (fun h46 => by exfalso; rw [pit_t hq] at h46; exact absurd h46 (by decide))
        refine go_iconst (v := nI 1) (by decide) dX0_checkNew_62 ?_
        refine go_goto (tgt := 67) dX0_checkNew_63 (by decide) ?_
        refine go_istore (i := 6) dX0_checkNew_67 (nle rfl) (nle rfl) ?_
        refine gn_inc (i := 7) (a := i) (q := 1) rfl dX0_checkNew_69 (nle rfl) rfl ?_
        refine go_goto (tgt := 28) dX0_checkNew_72 (by decide) ?_
        rw [show nI 1 = (pit (fnd D l < D.n 2 ∨ ∃ u, u < i + 1 ∧ D.nm 1 u = l) (nI 1) (nI 0)) from (pit_t (hq.imp id (fun ⟨u, a, b⟩ => ⟨u, by omega, b⟩))).symm]
        exact ih
      · skip
        refine go_iload (i := 7) rfl dX0_checkNew_28 ?_
        refine go_aload_n (q := 1) (i := 1) rfl rfl dX0_checkNew_30 ?_
        refine go_getI lf0_140 rfl hp.o dX0_checkNew_31 ?_
        rw [hc3]
        refine gn_ge (by omega) (by omega) (tgt := 75) dX0_checkNew_34 (by decide) (fun h34 => by exfalso; omega) (fun h34 => ?_)
        refine go_iload (i := 7) rfl dX0_checkNew_37 ?_
        refine go_bipush (v := nI 6) (by decide) dX0_checkNew_39 ?_
        refine gn_ge (by omega) (by omega) (tgt := 75) dX0_checkNew_41 (by decide) (fun h41 => by exfalso; omega) (fun h41 => ?_)
        refine go_iload (i := 6) rfl dX0_checkNew_44 ?_
        refine go_if_ne (tgt := 62) dX0_checkNew_46 (by decide) (fun h46 => by exfalso; exact h46 (by rw [pit_f hq]; decide)) (fun h46 => ?_)
        refine go_aload_n (q := 0) (i := 0) rfl rfl dX0_checkNew_49 ?_
        refine go_getR lf0_15 rfl hd.o hd.r1 dX0_checkNew_50 ?_
        refine go_iload (i := 7) rfl dX0_checkNew_53 ?_
        refine go_lald (j := i) hd.i1 (by omega) (by first | decide | omega) rfl dX0_checkNew_55 ?_
        rw [(hN.2.2.2 i (by omega)).1]
        refine go_lload (i := 4) rfl dX0_checkNew_56 ?_
        refine go_lcmp dX0_checkNew_58 ?_
        refine go_if_ne (tgt := 66) dX0_checkNew_59 (by decide) (fun h59 => ?_) (fun h59 => ?_)
        · skip
          refine go_iconst (v := nI 0) (by decide) dX0_checkNew_66 ?_
          refine go_istore (i := 6) dX0_checkNew_67 (nle rfl) (nle rfl) ?_
          refine gn_inc (i := 7) (a := i) (q := 1) rfl dX0_checkNew_69 (nle rfl) rfl ?_
          refine go_goto (tgt := 28) dX0_checkNew_72 (by decide) ?_
          rw [show nI 0 = (pit (fnd D l < D.n 2 ∨ ∃ u, u < i + 1 ∧ D.nm 1 u = l) (nI 1) (nI 0)) from (pit_f (fun q => hq (q.imp id (fun ⟨u, a, b⟩ => ⟨u, by
            by_cases e : u = i
            · rw [e] at b; exact absurd ((nm_C (hN.2.2.2 i (by omega)).2.1 (hN.2.2.2 i (by omega)).2.2.2 hl.1 hl.2.2).mpr b) h59
            · omega, b⟩)))).symm]
          exact ih
        · skip
          refine go_iconst (v := nI 1) (by decide) dX0_checkNew_62 ?_
          refine go_goto (tgt := 67) dX0_checkNew_63 (by decide) ?_
          refine go_istore (i := 6) dX0_checkNew_67 (nle rfl) (nle rfl) ?_
          refine gn_inc (i := 7) (a := i) (q := 1) rfl dX0_checkNew_69 (nle rfl) rfl ?_
          refine go_goto (tgt := 28) dX0_checkNew_72 (by decide) ?_
          rw [show nI 1 = (pit (fnd D l < D.n 2 ∨ ∃ u, u < i + 1 ∧ D.nm 1 u = l) (nI 1) (nI 0)) from (pit_t (Or.inr ⟨i, by omega, (nm_C (hN.2.2.2 i (by omega)).2.1 (hN.2.2.2 i (by omega)).2.2.2 hl.1 hl.2.2).mp h59⟩)).symm]
          exact ih
  refine go_aload_n (q := 2) (i := 2) rfl rfl dX0_checkNew_0 ?_
  refine go_iload_n (q := 3) (i := 3) rfl rfl dX0_checkNew_1 ?_
  refine go_callV okmX10_valueAt lmX0_103 ⟨nle rfl, nle rfl⟩ hw.o ⟨by decide, rfl⟩ (ev_tv hT hw hj) npmX10_valueAt rfl (nle rfl) ⟨nle rfl, nle rfl⟩ dX0_checkNew_2 ?_
  rintro _ mz ⟨⟨x, rfl, hx1, hx2⟩, hz⟩
  subst mz
  obtain rfl := hx2 hk
  rw [← hle]
  refine go_c1 ?_
  refine go_lstore (i := 4) dX0_checkNew_5 (nle rfl) (nle rfl) ?_
  refine go_aload_n (q := 0) (i := 0) rfl rfl dX0_checkNew_7 ?_
  refine go_aload_n (q := 1) (i := 1) rfl rfl dX0_checkNew_8 ?_
  refine go_lload (i := 4) rfl dX0_checkNew_9 ?_
  refine go_callV okmX0_holdingNamed lmX0_136 ⟨nle rfl, nle rfl⟩ hd.o ⟨by decide, rfl⟩ (ev_hnamed hd hp hc2 hN hl) npmX0_holdingNamed rfl (nle rfl) ⟨nle rfl, nle rfl⟩ dX0_checkNew_11 ?_
  rintro _ mz ⟨rfl, hz⟩
  subst mz
  by_cases hh : fnd D l < D.n 2
  · skip
    rw [if_pos hh]
    refine go_c1 ?_
    refine go_iconst (v := -1) (by decide) dX0_checkNew_14 ?_
    refine go_icmp_eq (tgt := 22) dX0_checkNew_15 (by decide) (fun h15 => by exfalso; exact (i1m _ (by omega) h15.symm).elim) (fun h15 => ?_)
    refine go_iconst (v := nI 1) (by decide) dX0_checkNew_18 ?_
    refine go_goto (tgt := 23) dX0_checkNew_19 (by decide) ?_
    refine go_istore (i := 6) dX0_checkNew_23 (nle rfl) (nle rfl) ?_
    refine go_iconst (v := nI 0) (by decide) dX0_checkNew_25 ?_
    refine go_istore (i := 7) dX0_checkNew_26 (nle rfl) (nle rfl) ?_
    have k0 := key 0 (Nat.zero_le _)
    rw [pit_t (Or.inl hh)] at k0
    exact k0
  · skip
    rw [if_neg hh]
    refine go_c1 ?_
    refine go_iconst (v := -1) (by decide) dX0_checkNew_14 ?_
    refine go_icmp_eq (tgt := 22) dX0_checkNew_15 (by decide) (fun h15 => ?_) (fun h15 => by exfalso; exact h15 rfl)
    refine go_iconst (v := nI 0) (by decide) dX0_checkNew_22 ?_
    refine go_istore (i := 6) dX0_checkNew_23 (nle rfl) (nle rfl) ?_
    refine go_iconst (v := nI 0) (by decide) dX0_checkNew_25 ?_
    refine go_istore (i := 7) dX0_checkNew_26 (nle rfl) (nle rfl) ?_
    have k0 := key 0 (Nat.zero_le _)
    rw [pit_f (fun q => q.elim hh (fun ⟨u, a, _⟩ => absurd a (Nat.not_lt_zero u)))] at k0
    exact k0
set_option maxRecDepth 100000 in
set_option maxHeartbeats 8000000 in
theorem ev_fillHolding {m : Me} {B : Nat → Nat} {n z dr p b : Nat} {w : Nat × Nat} {D : Dr} (hT : TkX m B n z) (hw : Wf10 m.1 (gR m) 3) (hd : Wf0 m.1 (gR m) 10) (hp : Wf7 m.1 (gR m) dr) (hdr : dr = 226 ∨ dr = 241) (hf : FT m B n z w) (hC : DrC m dr D b) (hat : gI m 10 4 = nI p) (hp4 : p < 400) (hV : ∀ j, kG B n z j = 24 → vG B n z j < 65536) (hnm : ∀ j, kG B n z j = 23 → NmO (tL B n j)) (hk1 : kG B n z (p + 1) = 23) (hk2 : kG B n z (p + 2) = 24) (hk3 : kG B n z (p + 3) = 24) (h24 : D.n 2 < 4) : Ev mX0_fillHolding [.ref 10, .ref dr, .ref 3] m (fun o m' => o = none ∧ FT m' B n z (wq (999 < (vG B n z (p + 3))) 5 (p + 3) (wq (99 < (vG B n z (p + 2))) 5 (p + 2) (wq (seen D (tL B n (p + 1))) 3 (p + 1) w))) ∧ ((wq (999 < (vG B n z (p + 3))) 5 (p + 3) (wq (99 < (vG B n z (p + 2))) 5 (p + 2) (wq (seen D (tL B n (p + 1))) 3 (p + 1) w))).1 = 0 → DrC m' dr (hoD D (tL B n (p + 1)) (vG B n z (p + 2)) (vG B n z (p + 3))) b) ∧ FD dr m m') := by
  refine ⟨plmX0_fillHolding, nle rfl, ?_⟩
  have fd : FD dr m m := FD.rf
  have hn24 := hC.2.2.2.2.2.1.1
  have hn36 := hC.2.2.2.2.2.1.2.1
  refine go_aload_n (q := 0) (i := 0) rfl rfl dX0_fillHolding_0 ?_
  refine go_aload_n (q := 1) (i := 1) rfl rfl dX0_fillHolding_1 ?_
  refine go_aload_n (q := 2) (i := 2) rfl rfl dX0_fillHolding_2 ?_
  refine go_aload_n (q := 0) (i := 0) rfl rfl dX0_fillHolding_3 ?_
  refine go_getI lf0_30 rfl hd.o dX0_fillHolding_4 ?_
  rw [hat]
  refine go_iconst (v := nI 1) (by decide) dX0_fillHolding_7 ?_
  refine gn_add dX0_fillHolding_8 ?_
  refine go_callV okmX0_checkNew lmX0_123 ⟨nle rfl, nle rfl⟩ hd.o ⟨by decide, rfl⟩ (ev_checkNew hT hw hd hp hf hC.1.2.2.1 hC.1.2.2.2.1 hC.2.2.2.2.2.1 (by omega) hk1 rfl (hnm _ hk1)) npmX0_checkNew rfl (nle rfl) ⟨nle rfl, nle rfl⟩ dX0_fillHolding_9 ?_
  rintro _ m1 ⟨rfl, f1, c1⟩
  have fd := fd.tr (c1).fd
  have hT := (c1).t hT
  have hw := (c1).w hw
  have hd := FD.w0 ((c1).fd (dr := dr)) hd
  have hp := FD.w7 ((c1).fd (dr := dr)) hp
  have hC := hC.fz (by omega) c1
  have hat : gI m1 10 4 = nI p := by rw [(c1).1.at (by decide)]; exact hat
  have hf := f1
  refine go_c0 ?_
  refine go_aload_n (q := 0) (i := 0) rfl rfl dX0_fillHolding_12 ?_
  refine go_aload_n (q := 2) (i := 2) rfl rfl dX0_fillHolding_13 ?_
  refine go_aload_n (q := 0) (i := 0) rfl rfl dX0_fillHolding_14 ?_
  refine go_getI lf0_30 rfl hd.o dX0_fillHolding_15 ?_
  rw [hat]
  refine go_iconst (v := nI 2) (by decide) dX0_fillHolding_18 ?_
  refine gn_add dX0_fillHolding_19 ?_
  refine go_iconst (v := nI 0) (by decide) dX0_fillHolding_20 ?_
  refine go_bipush (v := nI 99) (by decide) dX0_fillHolding_21 ?_
  refine go_callV okmX0_number lmX0_80 ⟨nle rfl, nle rfl⟩ hd.o ⟨by decide, rfl⟩ (ev_number (a := 0) (b := 99) hT hw hf (by omega) hk2 (hV _ hk2) (by omega) (by omega)) npmX0_number rfl (nle rfl) ⟨nle rfl, nle rfl⟩ dX0_fillHolding_23 ?_
  rintro _ m2 ⟨rfl, f1, c1⟩
  rw [wq_e (d := 99 < (vG B n z (p + 2))) (by omega)] at f1
  have fd := fd.tr (c1).fd
  have hT := (c1).t hT
  have hw := (c1).w hw
  have hd := FD.w0 ((c1).fd (dr := dr)) hd
  have hp := FD.w7 ((c1).fd (dr := dr)) hp
  have hC := hC.fz (by omega) c1
  have hat : gI m2 10 4 = nI p := by rw [(c1).1.at (by decide)]; exact hat
  have hf := f1
  refine go_c1 ?_
  refine go_istore_n (q := 3) (i := 3) rfl dX0_fillHolding_26 (nle rfl) (nle rfl) ?_
  refine go_aload_n (q := 0) (i := 0) rfl rfl dX0_fillHolding_27 ?_
  refine go_aload_n (q := 2) (i := 2) rfl rfl dX0_fillHolding_28 ?_
  refine go_aload_n (q := 0) (i := 0) rfl rfl dX0_fillHolding_29 ?_
  refine go_getI lf0_30 rfl hd.o dX0_fillHolding_30 ?_
  rw [hat]
  refine go_iconst (v := nI 3) (by decide) dX0_fillHolding_33 ?_
  refine gn_add dX0_fillHolding_34 ?_
  refine go_iconst (v := nI 0) (by decide) dX0_fillHolding_35 ?_
  refine go_sipush (v := nI 999) (by decide) dX0_fillHolding_36 ?_
  refine go_callV okmX0_number lmX0_80 ⟨nle rfl, nle rfl⟩ hd.o ⟨by decide, rfl⟩ (ev_number (a := 0) (b := 999) hT hw hf (by omega) hk3 (hV _ hk3) (by omega) (by omega)) npmX0_number rfl (nle rfl) ⟨nle rfl, nle rfl⟩ dX0_fillHolding_39 ?_
  rintro _ m3 ⟨rfl, f1, c1⟩
  rw [wq_e (d := 999 < (vG B n z (p + 3))) (by omega)] at f1
  have fd := fd.tr (c1).fd
  have hT := (c1).t hT
  have hw := (c1).w hw
  have hd := FD.w0 ((c1).fd (dr := dr)) hd
  have hp := FD.w7 ((c1).fd (dr := dr)) hp
  have hC := hC.fz (by omega) c1
  have hat : gI m3 10 4 = nI p := by rw [(c1).1.at (by decide)]; exact hat
  have hf := f1
  refine go_c1 ?_
  refine go_istore (i := 4) dX0_fillHolding_42 (nle rfl) (nle rfl) ?_
  refine go_L (L' := [some (.ref 10), some (.ref dr), some (.ref 3), some (.int (nI ((vG B n z (p + 2))))), some (.int (nI ((vG B n z (p + 3))))), none]) rfl ?_
  refine go_aload_n (q := 1) (i := 1) rfl rfl dX0_fillHolding_44 ?_
  refine go_getI lf0_126 rfl hp.o dX0_fillHolding_45 ?_
  rw [hC.1.2.2.1]
  refine go_istore (i := 5) dX0_fillHolding_48 (nle rfl) (nle rfl) ?_
  refine go_L (L' := [some (.ref 10), some (.ref dr), some (.ref 3), some (.int (nI ((vG B n z (p + 2))))), some (.int (nI ((vG B n z (p + 3))))), some (.int (nI (D.n 2)))]) rfl ?_
  refine go_iload (i := 5) rfl dX0_fillHolding_50 ?_
  refine gz_lt (by omega) (tgt := 105) dX0_fillHolding_52 (by decide) (fun h52 => by exfalso; omega) (fun h52 => ?_)
  refine go_iload (i := 5) rfl dX0_fillHolding_55 ?_
  refine go_iconst (v := nI 4) (by decide) dX0_fillHolding_57 ?_
  refine gn_ge (by omega) (by omega) (tgt := 105) dX0_fillHolding_58 (by decide) (fun h58 => by exfalso; omega) (fun h58 => ?_)
  refine go_aload_n (q := 0) (i := 0) rfl rfl dX0_fillHolding_61 ?_
  refine go_getR lf0_9 rfl hd.o hd.r0 dX0_fillHolding_62 ?_
  refine go_iload (i := 5) rfl dX0_fillHolding_65 ?_
  refine go_aload_n (q := 2) (i := 2) rfl rfl dX0_fillHolding_67 ?_
  refine go_aload_n (q := 0) (i := 0) rfl rfl dX0_fillHolding_68 ?_
  refine go_getI lf0_30 rfl hd.o dX0_fillHolding_69 ?_
  rw [hat]
  refine go_iconst (v := nI 1) (by decide) dX0_fillHolding_72 ?_
  refine gn_add dX0_fillHolding_73 ?_
  refine go_callV okmX10_valueAt lmX0_103 ⟨nle rfl, nle rfl⟩ hw.o ⟨by decide, rfl⟩ (ev_tv hT hw (by omega)) npmX10_valueAt rfl (nle rfl) ⟨nle rfl, nle rfl⟩ dX0_fillHolding_74 ?_
  rintro _ mz ⟨⟨x, rfl, hx1, hx2⟩, hz⟩
  subst mz
  obtain rfl := hx2 hk1
  refine go_c1 ?_
  refine go_last (j := (D.n 2)) hd.i0 (by omega) (by first | decide | omega) rfl dX0_fillHolding_77 ?_
  refine go_aload_n (q := 1) (i := 1) rfl rfl dX0_fillHolding_78 ?_
  refine go_getR lf0_129 rfl hp.o hp.r10 dX0_fillHolding_79 ?_
  refine go_iload (i := 5) rfl dX0_fillHolding_82 ?_
  refine go_iload_n (q := 3) (i := 3) rfl rfl dX0_fillHolding_84 ?_
  refine go_iast (j := (D.n 2)) hp.i10 (by omega) (by first | decide | omega) rfl dX0_fillHolding_85 ?_
  refine go_aload_n (q := 1) (i := 1) rfl rfl dX0_fillHolding_86 ?_
  refine go_getR lf0_133 rfl hp.o hp.r11 dX0_fillHolding_87 ?_
  refine go_iload (i := 5) rfl dX0_fillHolding_90 ?_
  refine go_iload (i := 4) rfl dX0_fillHolding_92 ?_
  refine go_iast (j := (D.n 2)) hp.i11 (by omega) (by first | decide | omega) rfl dX0_fillHolding_94 ?_
  refine go_aload_n (q := 1) (i := 1) rfl rfl dX0_fillHolding_95 ?_
  refine go_dup rfl dX0_fillHolding_96 ?_
  refine go_getI lf0_126 rfl hp.o dX0_fillHolding_97 ?_
  rw [gI_n (by omega), gI_n (by omega), gI_J, hC.1.2.2.1]
  refine go_iconst (v := nI 1) (by decide) dX0_fillHolding_100 ?_
  refine gn_add dX0_fillHolding_101 ?_
  refine go_putI lf0_126 rfl (Or.inl rfl) hp.o dX0_fillHolding_102 ?_
  refine go_vret rfl ⟨Nat.zero_le _, Nat.zero_le _⟩ dX0_fillHolding_105 ?_
  refine ⟨rfl, FT.of hf (by rw [gI_n (by omega), gI_n (by omega), gI_n (by omega), gI_J]), fun hz => ?_, (((fd.nm (Or.inl rfl)).pl (by omega) ⟨by omega, by omega⟩).pl (by omega) ⟨by omega, by omega⟩).pl (by omega) ⟨by omega, by omega⟩⟩
  refine hC.ho (by omega) (hnm _ hk1) h24 ?_ ?_ ?_ (fun x a b c d => ?_) rfl rfl
  · rw [gI_s, gI_n (by omega), gI_n (by omega), gI_J]
  · rw [gI_n (by omega), gI_n (by omega), gI_s]
  · rw [gI_n (by omega), gI_s, gI_n (by omega), gI_J]
  · rw [gI_n b, gI_n d, gI_n c, gI_J]
set_option maxRecDepth 100000 in
set_option maxHeartbeats 8000000 in
theorem ev_fillUse {m : Me} {B : Nat → Nat} {n z dr p b : Nat} {w : Nat × Nat} {D : Dr} (hT : TkX m B n z) (hw : Wf10 m.1 (gR m) 3) (hd : Wf0 m.1 (gR m) 10) (hp : Wf7 m.1 (gR m) dr) (hdr : dr = 226 ∨ dr = 241) (hf : FT m B n z w) (hC : DrC m dr D b) (hat : gI m 10 4 = nI p) (hp4 : p < 400) (hV : ∀ j, kG B n z j = 24 → vG B n z j < 65536) (hnm : ∀ j, kG B n z j = 23 → NmO (tL B n j)) (hk1 : kG B n z (p + 1) = 23) (hk2 : kG B n z (p + 2) = 23) (hk3 : kG B n z (p + 3) = 24) (hk4 : kG B n z (p + 4) = 24) (hk5 : kG B n z (p + 5) = 24) (h36 : D.n 3 < 6) : Ev mX0_fillUse [.ref 10, .ref dr, .ref 3] m (fun o m' => o = none ∧ FT m' B n z (wq ((vG B n z (p + 5)) < 1 ∨ 99 < (vG B n z (p + 5))) 5 (p + 5) (wq ((vG B n z (p + 4)) < (vG B n z (p + 3)) ∨ 23 < (vG B n z (p + 4))) 5 (p + 4) (wq (23 < (vG B n z (p + 3))) 5 (p + 3) (wq (¬ fnd D (tL B n (p + 2)) < D.n 2) 4 (p + 2) (wq (seen D (tL B n (p + 1))) 3 (p + 1) w))))) ∧ ((wq ((vG B n z (p + 5)) < 1 ∨ 99 < (vG B n z (p + 5))) 5 (p + 5) (wq ((vG B n z (p + 4)) < (vG B n z (p + 3)) ∨ 23 < (vG B n z (p + 4))) 5 (p + 4) (wq (23 < (vG B n z (p + 3))) 5 (p + 3) (wq (¬ fnd D (tL B n (p + 2)) < D.n 2) 4 (p + 2) (wq (seen D (tL B n (p + 1))) 3 (p + 1) w))))).1 = 0 → DrC m' dr (usD D (tL B n (p + 1)) (tL B n (p + 2)) (vG B n z (p + 3)) (vG B n z (p + 4)) (vG B n z (p + 5))) b) ∧ FD dr m m') := by
  refine ⟨plmX0_fillUse, nle rfl, ?_⟩
  have fd : FD dr m m := FD.rf
  have hn24 := hC.2.2.2.2.2.1.1
  have hn36 := hC.2.2.2.2.2.1.2.1
  have hv3 := hV _ hk3
  have hv4 := hV _ hk4
  have hv5 := hV _ hk5
  refine go_aload_n (q := 0) (i := 0) rfl rfl dX0_fillUse_0 ?_
  refine go_aload_n (q := 1) (i := 1) rfl rfl dX0_fillUse_1 ?_
  refine go_aload_n (q := 2) (i := 2) rfl rfl dX0_fillUse_2 ?_
  refine go_aload_n (q := 0) (i := 0) rfl rfl dX0_fillUse_3 ?_
  refine go_getI lf0_30 rfl hd.o dX0_fillUse_4 ?_
  rw [hat]
  refine go_iconst (v := nI 1) (by decide) dX0_fillUse_7 ?_
  refine gn_add dX0_fillUse_8 ?_
  refine go_callV okmX0_checkNew lmX0_123 ⟨nle rfl, nle rfl⟩ hd.o ⟨by decide, rfl⟩ (ev_checkNew hT hw hd hp hf hC.1.2.2.1 hC.1.2.2.2.1 hC.2.2.2.2.2.1 (by omega) hk1 rfl (hnm _ hk1)) npmX0_checkNew rfl (nle rfl) ⟨nle rfl, nle rfl⟩ dX0_fillUse_9 ?_
  rintro _ m1 ⟨rfl, f1, c1⟩
  have fd := fd.tr (c1).fd
  have hT := (c1).t hT
  have hw := (c1).w hw
  have hd := FD.w0 ((c1).fd (dr := dr)) hd
  have hp := FD.w7 ((c1).fd (dr := dr)) hp
  have hC := hC.fz (by omega) c1
  have hat : gI m1 10 4 = nI p := by rw [(c1).1.at (by decide)]; exact hat
  have hf := f1
  refine go_c0 ?_
  refine go_aload_n (q := 0) (i := 0) rfl rfl dX0_fillUse_12 ?_
  refine go_aload_n (q := 1) (i := 1) rfl rfl dX0_fillUse_13 ?_
  refine go_aload_n (q := 2) (i := 2) rfl rfl dX0_fillUse_14 ?_
  refine go_aload_n (q := 0) (i := 0) rfl rfl dX0_fillUse_15 ?_
  refine go_getI lf0_30 rfl hd.o dX0_fillUse_16 ?_
  rw [hat]
  refine go_iconst (v := nI 2) (by decide) dX0_fillUse_19 ?_
  refine gn_add dX0_fillUse_20 ?_
  refine go_callV okmX10_valueAt lmX0_103 ⟨nle rfl, nle rfl⟩ hw.o ⟨by decide, rfl⟩ (ev_tv hT hw (by omega)) npmX10_valueAt rfl (nle rfl) ⟨nle rfl, nle rfl⟩ dX0_fillUse_21 ?_
  rintro _ mz ⟨⟨x, rfl, hx1, hx2⟩, hz⟩
  subst mz
  obtain rfl := hx2 hk2
  refine go_c1 ?_
  refine go_callV okmX0_holdingNamed lmX0_136 ⟨nle rfl, nle rfl⟩ hd.o ⟨by decide, rfl⟩ (ev_hnamed hd hp hC.1.2.2.1 hC.2.2.2.2.2.1 (hnm _ hk2)) npmX0_holdingNamed rfl (nle rfl) ⟨nle rfl, nle rfl⟩ dX0_fillUse_24 ?_
  rintro _ mz ⟨rfl, hz⟩
  subst mz
  by_cases hh : fnd D (tL B n (p + 2)) < D.n 2
  · skip
    rw [if_pos hh]
    refine go_c1 ?_
    refine go_istore_n (q := 3) (i := 3) rfl dX0_fillUse_27 (nle rfl) (nle rfl) ?_
    refine go_iload_n (q := 3) (i := 3) rfl rfl dX0_fillUse_28 ?_
    refine go_iconst (v := -1) (by decide) dX0_fillUse_29 ?_
    refine go_icmp_ne (tgt := 48) dX0_fillUse_30 (by decide) (fun h30 => ?_) (fun h30 => by exfalso; exact (i1m _ (by omega) h30.symm).elim)
    have hf : FT m1 B n z (wq (¬ fnd D (tL B n (p + 2)) < D.n 2) 4 (p + 2) (wq (seen D (tL B n (p + 1))) 3 (p + 1) w)) := by rw [wq_n (fun q => q hh)]; exact hf
    refine go_aload_n (q := 0) (i := 0) rfl rfl dX0_fillUse_48 ?_
    refine go_aload_n (q := 2) (i := 2) rfl rfl dX0_fillUse_49 ?_
    refine go_aload_n (q := 0) (i := 0) rfl rfl dX0_fillUse_50 ?_
    refine go_getI lf0_30 rfl hd.o dX0_fillUse_51 ?_
    rw [hat]
    refine go_iconst (v := nI 3) (by decide) dX0_fillUse_54 ?_
    refine gn_add dX0_fillUse_55 ?_
    refine go_iconst (v := nI 0) (by decide) dX0_fillUse_56 ?_
    refine go_bipush (v := nI 23) (by decide) dX0_fillUse_57 ?_
    refine go_callV okmX0_number lmX0_80 ⟨nle rfl, nle rfl⟩ hd.o ⟨by decide, rfl⟩ (ev_number (a := 0) (b := 23) hT hw hf (by omega) hk3 (hV _ hk3) (by omega) (by omega)) npmX0_number rfl (nle rfl) ⟨nle rfl, nle rfl⟩ dX0_fillUse_59 ?_
    rintro _ m3 ⟨rfl, f1, c1⟩
    rw [wq_e (d := 23 < (vG B n z (p + 3))) (by omega)] at f1
    have fd := fd.tr (c1).fd
    have hT := (c1).t hT
    have hw := (c1).w hw
    have hd := FD.w0 ((c1).fd (dr := dr)) hd
    have hp := FD.w7 ((c1).fd (dr := dr)) hp
    have hC := hC.fz (by omega) c1
    have hat : gI m3 10 4 = nI p := by rw [(c1).1.at (by decide)]; exact hat
    have hf := f1
    refine go_c1 ?_
    refine go_istore (i := 4) dX0_fillUse_62 (nle rfl) (nle rfl) ?_
    refine go_L (L' := [some (.ref 10), some (.ref dr), some (.ref 3), some (.int (nI ((fnd D (tL B n (p + 2)))))), some (.int (nI ((vG B n z (p + 3))))), none, none, none]) rfl ?_
    refine go_aload_n (q := 0) (i := 0) rfl rfl dX0_fillUse_64 ?_
    refine go_aload_n (q := 2) (i := 2) rfl rfl dX0_fillUse_65 ?_
    refine go_aload_n (q := 0) (i := 0) rfl rfl dX0_fillUse_66 ?_
    refine go_getI lf0_30 rfl hd.o dX0_fillUse_67 ?_
    rw [hat]
    refine go_iconst (v := nI 4) (by decide) dX0_fillUse_70 ?_
    refine gn_add dX0_fillUse_71 ?_
    refine go_iload (i := 4) rfl dX0_fillUse_72 ?_
    refine go_bipush (v := nI 23) (by decide) dX0_fillUse_74 ?_
    refine go_callV okmX0_number lmX0_80 ⟨nle rfl, nle rfl⟩ hd.o ⟨by decide, rfl⟩ (ev_number (a := (vG B n z (p + 3))) (b := 23) hT hw hf (by omega) hk4 (hV _ hk4) (by omega) (by omega)) npmX0_number rfl (nle rfl) ⟨nle rfl, nle rfl⟩ dX0_fillUse_76 ?_
    rintro _ m4 ⟨rfl, f1, c1⟩
    rw [wq_e (d := (vG B n z (p + 4)) < (vG B n z (p + 3)) ∨ 23 < (vG B n z (p + 4))) (by omega)] at f1
    have fd := fd.tr (c1).fd
    have hT := (c1).t hT
    have hw := (c1).w hw
    have hd := FD.w0 ((c1).fd (dr := dr)) hd
    have hp := FD.w7 ((c1).fd (dr := dr)) hp
    have hC := hC.fz (by omega) c1
    have hat : gI m4 10 4 = nI p := by rw [(c1).1.at (by decide)]; exact hat
    have hf := f1
    refine go_c1 ?_
    refine go_istore (i := 5) dX0_fillUse_79 (nle rfl) (nle rfl) ?_
    refine go_L (L' := [some (.ref 10), some (.ref dr), some (.ref 3), some (.int (nI ((fnd D (tL B n (p + 2)))))), some (.int (nI ((vG B n z (p + 3))))), some (.int (nI ((vG B n z (p + 4))))), none, none]) rfl ?_
    refine go_aload_n (q := 0) (i := 0) rfl rfl dX0_fillUse_81 ?_
    refine go_aload_n (q := 2) (i := 2) rfl rfl dX0_fillUse_82 ?_
    refine go_aload_n (q := 0) (i := 0) rfl rfl dX0_fillUse_83 ?_
    refine go_getI lf0_30 rfl hd.o dX0_fillUse_84 ?_
    rw [hat]
    refine go_iconst (v := nI 5) (by decide) dX0_fillUse_87 ?_
    refine gn_add dX0_fillUse_88 ?_
    refine go_iconst (v := nI 1) (by decide) dX0_fillUse_89 ?_
    refine go_bipush (v := nI 99) (by decide) dX0_fillUse_90 ?_
    refine go_callV okmX0_number lmX0_80 ⟨nle rfl, nle rfl⟩ hd.o ⟨by decide, rfl⟩ (ev_number (a := 1) (b := 99) hT hw hf (by omega) hk5 (hV _ hk5) (by omega) (by omega)) npmX0_number rfl (nle rfl) ⟨nle rfl, nle rfl⟩ dX0_fillUse_92 ?_
    rintro _ m5 ⟨rfl, f1, c1⟩
    rw [wq_e (d := (vG B n z (p + 5)) < 1 ∨ 99 < (vG B n z (p + 5))) (by omega)] at f1
    have fd := fd.tr (c1).fd
    have hT := (c1).t hT
    have hw := (c1).w hw
    have hd := FD.w0 ((c1).fd (dr := dr)) hd
    have hp := FD.w7 ((c1).fd (dr := dr)) hp
    have hC := hC.fz (by omega) c1
    have hat : gI m5 10 4 = nI p := by rw [(c1).1.at (by decide)]; exact hat
    have hf := f1
    refine go_c1 ?_
    refine go_istore (i := 6) dX0_fillUse_95 (nle rfl) (nle rfl) ?_
    refine go_L (L' := [some (.ref 10), some (.ref dr), some (.ref 3), some (.int (nI ((fnd D (tL B n (p + 2)))))), some (.int (nI ((vG B n z (p + 3))))), some (.int (nI ((vG B n z (p + 4))))), some (.int (nI ((vG B n z (p + 5))))), none]) rfl ?_
    refine go_aload_n (q := 1) (i := 1) rfl rfl dX0_fillUse_97 ?_
    refine go_getI lf0_140 rfl hp.o dX0_fillUse_98 ?_
    rw [hC.1.2.2.2.1]
    refine go_istore (i := 7) dX0_fillUse_101 (nle rfl) (nle rfl) ?_
    refine go_L (L' := [some (.ref 10), some (.ref dr), some (.ref 3), some (.int (nI ((fnd D (tL B n (p + 2)))))), some (.int (nI ((vG B n z (p + 3))))), some (.int (nI ((vG B n z (p + 4))))), some (.int (nI ((vG B n z (p + 5))))), some (.int (nI (D.n 3)))]) rfl ?_
    refine go_iload (i := 7) rfl dX0_fillUse_103 ?_
    refine gz_lt (by omega) (tgt := 177) dX0_fillUse_105 (by decide) (fun h105 => by exfalso; omega) (fun h105 => ?_)
    refine go_iload (i := 7) rfl dX0_fillUse_108 ?_
    refine go_bipush (v := nI 6) (by decide) dX0_fillUse_110 ?_
    refine gn_ge (by omega) (by omega) (tgt := 177) dX0_fillUse_112 (by decide) (fun h112 => by exfalso; omega) (fun h112 => ?_)
    refine go_aload_n (q := 0) (i := 0) rfl rfl dX0_fillUse_115 ?_
    refine go_getR lf0_15 rfl hd.o hd.r1 dX0_fillUse_116 ?_
    refine go_iload (i := 7) rfl dX0_fillUse_119 ?_
    refine go_aload_n (q := 2) (i := 2) rfl rfl dX0_fillUse_121 ?_
    refine go_aload_n (q := 0) (i := 0) rfl rfl dX0_fillUse_122 ?_
    refine go_getI lf0_30 rfl hd.o dX0_fillUse_123 ?_
    rw [hat]
    refine go_iconst (v := nI 1) (by decide) dX0_fillUse_126 ?_
    refine gn_add dX0_fillUse_127 ?_
    refine go_callV okmX10_valueAt lmX0_103 ⟨nle rfl, nle rfl⟩ hw.o ⟨by decide, rfl⟩ (ev_tv hT hw (by omega)) npmX10_valueAt rfl (nle rfl) ⟨nle rfl, nle rfl⟩ dX0_fillUse_128 ?_
    rintro _ mz ⟨⟨x, rfl, hx1, hx2⟩, hz⟩
    subst mz
    obtain rfl := hx2 hk1
    refine go_c1 ?_
    refine go_last (j := (D.n 3)) hd.i1 (by omega) (by first | decide | omega) rfl dX0_fillUse_131 ?_
    refine go_aload_n (q := 1) (i := 1) rfl rfl dX0_fillUse_132 ?_
    refine go_getR lf0_143 rfl hp.o hp.r12 dX0_fillUse_133 ?_
    refine go_iload (i := 7) rfl dX0_fillUse_136 ?_
    refine go_iload_n (q := 3) (i := 3) rfl rfl dX0_fillUse_138 ?_
    refine go_iast (j := (D.n 3)) hp.i12 (by omega) (by first | decide | omega) rfl dX0_fillUse_139 ?_
    refine go_aload_n (q := 1) (i := 1) rfl rfl dX0_fillUse_140 ?_
    refine go_getR lf0_146 rfl hp.o hp.r13 dX0_fillUse_141 ?_
    refine go_iload (i := 7) rfl dX0_fillUse_144 ?_
    refine go_iload (i := 4) rfl dX0_fillUse_146 ?_
    refine go_iast (j := (D.n 3)) hp.i13 (by omega) (by first | decide | omega) rfl dX0_fillUse_148 ?_
    refine go_aload_n (q := 1) (i := 1) rfl rfl dX0_fillUse_149 ?_
    refine go_getR lf0_149 rfl hp.o hp.r14 dX0_fillUse_150 ?_
    refine go_iload (i := 7) rfl dX0_fillUse_153 ?_
    refine go_iload (i := 5) rfl dX0_fillUse_155 ?_
    refine go_iast (j := (D.n 3)) hp.i14 (by omega) (by first | decide | omega) rfl dX0_fillUse_157 ?_
    refine go_aload_n (q := 1) (i := 1) rfl rfl dX0_fillUse_158 ?_
    refine go_getR lf0_152 rfl hp.o hp.r15 dX0_fillUse_159 ?_
    refine go_iload (i := 7) rfl dX0_fillUse_162 ?_
    refine go_iload (i := 6) rfl dX0_fillUse_164 ?_
    refine go_iast (j := (D.n 3)) hp.i15 (by omega) (by first | decide | omega) rfl dX0_fillUse_166 ?_
    refine go_aload_n (q := 1) (i := 1) rfl rfl dX0_fillUse_167 ?_
    refine go_dup rfl dX0_fillUse_168 ?_
    refine go_getI lf0_140 rfl hp.o dX0_fillUse_169 ?_
    rw [gI_n (by omega), gI_n (by omega), gI_n (by omega), gI_n (by omega), gI_J, hC.1.2.2.2.1]
    refine go_iconst (v := nI 1) (by decide) dX0_fillUse_172 ?_
    refine gn_add dX0_fillUse_173 ?_
    refine go_putI lf0_140 rfl (Or.inl rfl) hp.o dX0_fillUse_174 ?_
    refine go_vret rfl ⟨Nat.zero_le _, Nat.zero_le _⟩ dX0_fillUse_177 ?_
    refine ⟨rfl, FT.of hf (by rw [gI_n (by omega), gI_n (by omega), gI_n (by omega), gI_n (by omega), gI_n (by omega), gI_J]), fun hz => ?_, (((((fd.nm (Or.inr rfl)).pl (by omega) ⟨by omega, by omega⟩).pl (by omega) ⟨by omega, by omega⟩).pl (by omega) ⟨by omega, by omega⟩).pl (by omega) ⟨by omega, by omega⟩).pl (by omega) ⟨by omega, by omega⟩⟩
    refine hC.us (by omega) (hnm _ hk1) h36 (by omega) ?_ ?_ ?_ ?_ ?_ (fun x a b c => ?_) rfl rfl
    · rw [gI_s, gI_n (by omega), gI_n (by omega), gI_n (by omega), gI_n (by omega), gI_J]
    · rw [gI_n (by omega), gI_n (by omega), gI_n (by omega), gI_n (by omega), gI_s]
      rw [if_pos hh]
    · rw [gI_n (by omega), gI_n (by omega), gI_n (by omega), gI_s, gI_n (by omega), gI_J]
    · rw [gI_n (by omega), gI_n (by omega), gI_s, gI_n (by omega), gI_n (by omega), gI_J]
    · rw [gI_n (by omega), gI_s, gI_n (by omega), gI_n (by omega), gI_n (by omega), gI_J]
    · rw [gI_n b, gI_n (by omega), gI_n (by omega), gI_n (by omega), gI_n (by omega), gI_J]
  · skip
    rw [if_neg hh]
    refine go_c1 ?_
    refine go_istore_n (q := 3) (i := 3) rfl dX0_fillUse_27 (nle rfl) (nle rfl) ?_
    refine go_iload_n (q := 3) (i := 3) rfl rfl dX0_fillUse_28 ?_
    refine go_iconst (v := -1) (by decide) dX0_fillUse_29 ?_
    refine go_icmp_ne (tgt := 48) dX0_fillUse_30 (by decide) (fun h30 => by exfalso; exact h30 rfl) (fun h30 => ?_)
    refine go_aload_n (q := 2) (i := 2) rfl rfl dX0_fillUse_33 ?_
    refine go_iconst (v := nI 4) (by decide) dX0_fillUse_34 ?_
    refine go_aload_n (q := 2) (i := 2) rfl rfl dX0_fillUse_35 ?_
    refine go_aload_n (q := 0) (i := 0) rfl rfl dX0_fillUse_36 ?_
    refine go_getI lf0_30 rfl hd.o dX0_fillUse_37 ?_
    rw [hat]
    refine go_iconst (v := nI 2) (by decide) dX0_fillUse_40 ?_
    refine gn_add dX0_fillUse_41 ?_
    refine go_callV okmX10_placeAt lmX0_111 ⟨nle rfl, nle rfl⟩ hw.o ⟨by decide, rfl⟩ (ev_tp hT hw (by omega)) npmX10_placeAt rfl (nle rfl) ⟨nle rfl, nle rfl⟩ dX0_fillUse_42 ?_
    rintro _ mz ⟨rfl, hz⟩
    subst mz
    refine go_c1 ?_
    refine go_callV okmX10_fail lmX0_63 ⟨nle rfl, nle rfl⟩ hw.o ⟨by decide, rfl⟩ (ev_failw hw hf (c := 4) (by decide)) npmX10_fail rfl (nle rfl) ⟨nle rfl, nle rfl⟩ dX0_fillUse_45 ?_
    rintro _ m2 ⟨rfl, f1, c1⟩
    rw [wq_e (d := ¬ fnd D (tL B n (p + 2)) < D.n 2) (by simp only [hh, not_false_eq_true])] at f1
    have fd := fd.tr (c1).fd
    have hT := (c1).t hT
    have hw := (c1).w hw
    have hd := FD.w0 ((c1).fd (dr := dr)) hd
    have hp := FD.w7 ((c1).fd (dr := dr)) hp
    have hC := hC.fz (by omega) c1
    have hat : gI m2 10 4 = nI p := by rw [(c1).1.at (by decide)]; exact hat
    have hf := f1
    refine go_c0 ?_
    refine go_aload_n (q := 0) (i := 0) rfl rfl dX0_fillUse_48 ?_
    refine go_aload_n (q := 2) (i := 2) rfl rfl dX0_fillUse_49 ?_
    refine go_aload_n (q := 0) (i := 0) rfl rfl dX0_fillUse_50 ?_
    refine go_getI lf0_30 rfl hd.o dX0_fillUse_51 ?_
    rw [hat]
    refine go_iconst (v := nI 3) (by decide) dX0_fillUse_54 ?_
    refine gn_add dX0_fillUse_55 ?_
    refine go_iconst (v := nI 0) (by decide) dX0_fillUse_56 ?_
    refine go_bipush (v := nI 23) (by decide) dX0_fillUse_57 ?_
    refine go_callV okmX0_number lmX0_80 ⟨nle rfl, nle rfl⟩ hd.o ⟨by decide, rfl⟩ (ev_number (a := 0) (b := 23) hT hw hf (by omega) hk3 (hV _ hk3) (by omega) (by omega)) npmX0_number rfl (nle rfl) ⟨nle rfl, nle rfl⟩ dX0_fillUse_59 ?_
    rintro _ m3 ⟨rfl, f1, c1⟩
    rw [wq_e (d := 23 < (vG B n z (p + 3))) (by omega)] at f1
    have fd := fd.tr (c1).fd
    have hT := (c1).t hT
    have hw := (c1).w hw
    have hd := FD.w0 ((c1).fd (dr := dr)) hd
    have hp := FD.w7 ((c1).fd (dr := dr)) hp
    have hC := hC.fz (by omega) c1
    have hat : gI m3 10 4 = nI p := by rw [(c1).1.at (by decide)]; exact hat
    have hf := f1
    refine go_c1 ?_
    refine go_istore (i := 4) dX0_fillUse_62 (nle rfl) (nle rfl) ?_
    refine go_L (L' := [some (.ref 10), some (.ref dr), some (.ref 3), some (.int ((-1))), some (.int (nI ((vG B n z (p + 3))))), none, none, none]) rfl ?_
    refine go_aload_n (q := 0) (i := 0) rfl rfl dX0_fillUse_64 ?_
    refine go_aload_n (q := 2) (i := 2) rfl rfl dX0_fillUse_65 ?_
    refine go_aload_n (q := 0) (i := 0) rfl rfl dX0_fillUse_66 ?_
    refine go_getI lf0_30 rfl hd.o dX0_fillUse_67 ?_
    rw [hat]
    refine go_iconst (v := nI 4) (by decide) dX0_fillUse_70 ?_
    refine gn_add dX0_fillUse_71 ?_
    refine go_iload (i := 4) rfl dX0_fillUse_72 ?_
    refine go_bipush (v := nI 23) (by decide) dX0_fillUse_74 ?_
    refine go_callV okmX0_number lmX0_80 ⟨nle rfl, nle rfl⟩ hd.o ⟨by decide, rfl⟩ (ev_number (a := (vG B n z (p + 3))) (b := 23) hT hw hf (by omega) hk4 (hV _ hk4) (by omega) (by omega)) npmX0_number rfl (nle rfl) ⟨nle rfl, nle rfl⟩ dX0_fillUse_76 ?_
    rintro _ m4 ⟨rfl, f1, c1⟩
    rw [wq_e (d := (vG B n z (p + 4)) < (vG B n z (p + 3)) ∨ 23 < (vG B n z (p + 4))) (by omega)] at f1
    have fd := fd.tr (c1).fd
    have hT := (c1).t hT
    have hw := (c1).w hw
    have hd := FD.w0 ((c1).fd (dr := dr)) hd
    have hp := FD.w7 ((c1).fd (dr := dr)) hp
    have hC := hC.fz (by omega) c1
    have hat : gI m4 10 4 = nI p := by rw [(c1).1.at (by decide)]; exact hat
    have hf := f1
    refine go_c1 ?_
    refine go_istore (i := 5) dX0_fillUse_79 (nle rfl) (nle rfl) ?_
    refine go_L (L' := [some (.ref 10), some (.ref dr), some (.ref 3), some (.int ((-1))), some (.int (nI ((vG B n z (p + 3))))), some (.int (nI ((vG B n z (p + 4))))), none, none]) rfl ?_
    refine go_aload_n (q := 0) (i := 0) rfl rfl dX0_fillUse_81 ?_
    refine go_aload_n (q := 2) (i := 2) rfl rfl dX0_fillUse_82 ?_
    refine go_aload_n (q := 0) (i := 0) rfl rfl dX0_fillUse_83 ?_
    refine go_getI lf0_30 rfl hd.o dX0_fillUse_84 ?_
    rw [hat]
    refine go_iconst (v := nI 5) (by decide) dX0_fillUse_87 ?_
    refine gn_add dX0_fillUse_88 ?_
    refine go_iconst (v := nI 1) (by decide) dX0_fillUse_89 ?_
    refine go_bipush (v := nI 99) (by decide) dX0_fillUse_90 ?_
    refine go_callV okmX0_number lmX0_80 ⟨nle rfl, nle rfl⟩ hd.o ⟨by decide, rfl⟩ (ev_number (a := 1) (b := 99) hT hw hf (by omega) hk5 (hV _ hk5) (by omega) (by omega)) npmX0_number rfl (nle rfl) ⟨nle rfl, nle rfl⟩ dX0_fillUse_92 ?_
    rintro _ m5 ⟨rfl, f1, c1⟩
    rw [wq_e (d := (vG B n z (p + 5)) < 1 ∨ 99 < (vG B n z (p + 5))) (by omega)] at f1
    have fd := fd.tr (c1).fd
    have hT := (c1).t hT
    have hw := (c1).w hw
    have hd := FD.w0 ((c1).fd (dr := dr)) hd
    have hp := FD.w7 ((c1).fd (dr := dr)) hp
    have hC := hC.fz (by omega) c1
    have hat : gI m5 10 4 = nI p := by rw [(c1).1.at (by decide)]; exact hat
    have hf := f1
    refine go_c1 ?_
    refine go_istore (i := 6) dX0_fillUse_95 (nle rfl) (nle rfl) ?_
    refine go_L (L' := [some (.ref 10), some (.ref dr), some (.ref 3), some (.int ((-1))), some (.int (nI ((vG B n z (p + 3))))), some (.int (nI ((vG B n z (p + 4))))), some (.int (nI ((vG B n z (p + 5))))), none]) rfl ?_
    refine go_aload_n (q := 1) (i := 1) rfl rfl dX0_fillUse_97 ?_
    refine go_getI lf0_140 rfl hp.o dX0_fillUse_98 ?_
    rw [hC.1.2.2.2.1]
    refine go_istore (i := 7) dX0_fillUse_101 (nle rfl) (nle rfl) ?_
    refine go_L (L' := [some (.ref 10), some (.ref dr), some (.ref 3), some (.int ((-1))), some (.int (nI ((vG B n z (p + 3))))), some (.int (nI ((vG B n z (p + 4))))), some (.int (nI ((vG B n z (p + 5))))), some (.int (nI (D.n 3)))]) rfl ?_
    refine go_iload (i := 7) rfl dX0_fillUse_103 ?_
    refine gz_lt (by omega) (tgt := 177) dX0_fillUse_105 (by decide) (fun h105 => by exfalso; omega) (fun h105 => ?_)
    refine go_iload (i := 7) rfl dX0_fillUse_108 ?_
    refine go_bipush (v := nI 6) (by decide) dX0_fillUse_110 ?_
    refine gn_ge (by omega) (by omega) (tgt := 177) dX0_fillUse_112 (by decide) (fun h112 => by exfalso; omega) (fun h112 => ?_)
    refine go_aload_n (q := 0) (i := 0) rfl rfl dX0_fillUse_115 ?_
    refine go_getR lf0_15 rfl hd.o hd.r1 dX0_fillUse_116 ?_
    refine go_iload (i := 7) rfl dX0_fillUse_119 ?_
    refine go_aload_n (q := 2) (i := 2) rfl rfl dX0_fillUse_121 ?_
    refine go_aload_n (q := 0) (i := 0) rfl rfl dX0_fillUse_122 ?_
    refine go_getI lf0_30 rfl hd.o dX0_fillUse_123 ?_
    rw [hat]
    refine go_iconst (v := nI 1) (by decide) dX0_fillUse_126 ?_
    refine gn_add dX0_fillUse_127 ?_
    refine go_callV okmX10_valueAt lmX0_103 ⟨nle rfl, nle rfl⟩ hw.o ⟨by decide, rfl⟩ (ev_tv hT hw (by omega)) npmX10_valueAt rfl (nle rfl) ⟨nle rfl, nle rfl⟩ dX0_fillUse_128 ?_
    rintro _ mz ⟨⟨x, rfl, hx1, hx2⟩, hz⟩
    subst mz
    obtain rfl := hx2 hk1
    refine go_c1 ?_
    refine go_last (j := (D.n 3)) hd.i1 (by omega) (by first | decide | omega) rfl dX0_fillUse_131 ?_
    refine go_aload_n (q := 1) (i := 1) rfl rfl dX0_fillUse_132 ?_
    refine go_getR lf0_143 rfl hp.o hp.r12 dX0_fillUse_133 ?_
    refine go_iload (i := 7) rfl dX0_fillUse_136 ?_
    refine go_iload_n (q := 3) (i := 3) rfl rfl dX0_fillUse_138 ?_
    refine go_iast (j := (D.n 3)) hp.i12 (by omega) (by first | decide | omega) rfl dX0_fillUse_139 ?_
    refine go_aload_n (q := 1) (i := 1) rfl rfl dX0_fillUse_140 ?_
    refine go_getR lf0_146 rfl hp.o hp.r13 dX0_fillUse_141 ?_
    refine go_iload (i := 7) rfl dX0_fillUse_144 ?_
    refine go_iload (i := 4) rfl dX0_fillUse_146 ?_
    refine go_iast (j := (D.n 3)) hp.i13 (by omega) (by first | decide | omega) rfl dX0_fillUse_148 ?_
    refine go_aload_n (q := 1) (i := 1) rfl rfl dX0_fillUse_149 ?_
    refine go_getR lf0_149 rfl hp.o hp.r14 dX0_fillUse_150 ?_
    refine go_iload (i := 7) rfl dX0_fillUse_153 ?_
    refine go_iload (i := 5) rfl dX0_fillUse_155 ?_
    refine go_iast (j := (D.n 3)) hp.i14 (by omega) (by first | decide | omega) rfl dX0_fillUse_157 ?_
    refine go_aload_n (q := 1) (i := 1) rfl rfl dX0_fillUse_158 ?_
    refine go_getR lf0_152 rfl hp.o hp.r15 dX0_fillUse_159 ?_
    refine go_iload (i := 7) rfl dX0_fillUse_162 ?_
    refine go_iload (i := 6) rfl dX0_fillUse_164 ?_
    refine go_iast (j := (D.n 3)) hp.i15 (by omega) (by first | decide | omega) rfl dX0_fillUse_166 ?_
    refine go_aload_n (q := 1) (i := 1) rfl rfl dX0_fillUse_167 ?_
    refine go_dup rfl dX0_fillUse_168 ?_
    refine go_getI lf0_140 rfl hp.o dX0_fillUse_169 ?_
    rw [gI_n (by omega), gI_n (by omega), gI_n (by omega), gI_n (by omega), gI_J, hC.1.2.2.2.1]
    refine go_iconst (v := nI 1) (by decide) dX0_fillUse_172 ?_
    refine gn_add dX0_fillUse_173 ?_
    refine go_putI lf0_140 rfl (Or.inl rfl) hp.o dX0_fillUse_174 ?_
    refine go_vret rfl ⟨Nat.zero_le _, Nat.zero_le _⟩ dX0_fillUse_177 ?_
    refine ⟨rfl, FT.of hf (by rw [gI_n (by omega), gI_n (by omega), gI_n (by omega), gI_n (by omega), gI_n (by omega), gI_J]), fun hz => ?_, (((((fd.nm (Or.inr rfl)).pl (by omega) ⟨by omega, by omega⟩).pl (by omega) ⟨by omega, by omega⟩).pl (by omega) ⟨by omega, by omega⟩).pl (by omega) ⟨by omega, by omega⟩).pl (by omega) ⟨by omega, by omega⟩⟩
    refine hC.us (by omega) (hnm _ hk1) h36 (by omega) ?_ ?_ ?_ ?_ ?_ (fun x a b c => ?_) rfl rfl
    · rw [gI_s, gI_n (by omega), gI_n (by omega), gI_n (by omega), gI_n (by omega), gI_J]
    · rw [gI_n (by omega), gI_n (by omega), gI_n (by omega), gI_n (by omega), gI_s]
      rw [if_neg hh]
    · rw [gI_n (by omega), gI_n (by omega), gI_n (by omega), gI_s, gI_n (by omega), gI_J]
    · rw [gI_n (by omega), gI_n (by omega), gI_s, gI_n (by omega), gI_n (by omega), gI_J]
    · rw [gI_n (by omega), gI_s, gI_n (by omega), gI_n (by omega), gI_n (by omega), gI_J]
    · rw [gI_n b, gI_n (by omega), gI_n (by omega), gI_n (by omega), gI_n (by omega), gI_J]
set_option maxRecDepth 100000 in
set_option maxHeartbeats 8000000 in
theorem ev_fillBank {m : Me} {B : Nat → Nat} {n z dr p b : Nat} {w : Nat × Nat} {D : Dr} (hT : TkX m B n z) (hw : Wf10 m.1 (gR m) 3) (hd : Wf0 m.1 (gR m) 10) (hp : Wf7 m.1 (gR m) dr) (hdr : dr = 226 ∨ dr = 241) (hf : FT m B n z w) (hC : DrC m dr D b) (hat : gI m 10 4 = nI p) (hp4 : p < 400) (hV : ∀ j, kG B n z j = 24 → vG B n z j < 65536) (hnm : ∀ j, kG B n z j = 23 → NmO (tL B n j)) (hk1 : kG B n z (p + 1) = 24) (hk2 : kG B n z (p + 2) = 24) (hk3 : kG B n z (p + 3) = 24) (h4 : D.n 4 < 12) (hb7 : ∀ i, i < D.n 4 → D.bk i 0 ≤ 7 ∧ D.bk i 1 ≤ 4) : Ev mX0_fillBank [.ref 10, .ref dr, .ref 3] m (fun o m' => o = none ∧ FT m' B n z (wq (99 < (vG B n z (p + 3))) 5 (p + 3) (wq (4 < (vG B n z (p + 2))) 5 (p + 2) (wq (7 < (vG B n z (p + 1))) 5 (p + 1) w))) ∧ ((wq (99 < (vG B n z (p + 3))) 5 (p + 3) (wq (4 < (vG B n z (p + 2))) 5 (p + 2) (wq (7 < (vG B n z (p + 1))) 5 (p + 1) w))).1 = 0 → DrC m' dr (bkD D (vG B n z (p + 1)) (vG B n z (p + 2)) (vG B n z (p + 3))) b) ∧ FD dr m m') := by
  refine ⟨plmX0_fillBank, nle rfl, ?_⟩
  have fd : FD dr m m := FD.rf
  have hn24 := hC.2.2.2.2.2.1.1
  have hn36 := hC.2.2.2.2.2.1.2.1
  have hv1 := hV _ hk1
  have hv2 := hV _ hk2
  have hv3 := hV _ hk3
  have hm0 := bmx_le (b := D.bk) (q := 0) (N := 8) _ (fun i hi => by have := (hb7 i hi).1; omega)
  have hm1 := bmx_le (b := D.bk) (q := 1) (N := 8) _ (fun i hi => by have := (hb7 i hi).2; omega)
  refine go_aload_n (q := 0) (i := 0) rfl rfl dX0_fillBank_0 ?_
  refine go_aload_n (q := 2) (i := 2) rfl rfl dX0_fillBank_1 ?_
  refine go_aload_n (q := 0) (i := 0) rfl rfl dX0_fillBank_2 ?_
  refine go_getI lf0_30 rfl hd.o dX0_fillBank_3 ?_
  rw [hat]
  refine go_iconst (v := nI 1) (by decide) dX0_fillBank_6 ?_
  refine gn_add dX0_fillBank_7 ?_
  refine go_iconst (v := nI 0) (by decide) dX0_fillBank_8 ?_
  refine go_bipush (v := nI 7) (by decide) dX0_fillBank_9 ?_
  refine go_callV okmX0_number lmX0_80 ⟨nle rfl, nle rfl⟩ hd.o ⟨by decide, rfl⟩ (ev_number (a := 0) (b := 7) hT hw hf (by omega) hk1 (hV _ hk1) (by omega) (by omega)) npmX0_number rfl (nle rfl) ⟨nle rfl, nle rfl⟩ dX0_fillBank_11 ?_
  rintro _ m1 ⟨rfl, f1, c1⟩
  rw [wq_e (d := 7 < (vG B n z (p + 1))) (by omega)] at f1
  have fd := fd.tr (c1).fd
  have hT := (c1).t hT
  have hw := (c1).w hw
  have hd := FD.w0 ((c1).fd (dr := dr)) hd
  have hp := FD.w7 ((c1).fd (dr := dr)) hp
  have hC := hC.fz (by omega) c1
  have hat : gI m1 10 4 = nI p := by rw [(c1).1.at (by decide)]; exact hat
  have hf := f1
  refine go_c1 ?_
  refine go_istore_n (q := 3) (i := 3) rfl dX0_fillBank_14 (nle rfl) (nle rfl) ?_
  refine go_L (L' := [some (.ref 10), some (.ref dr), some (.ref 3), some (.int (nI ((vG B n z (p + 1))))), none, none]) rfl ?_
  refine go_aload_n (q := 0) (i := 0) rfl rfl dX0_fillBank_15 ?_
  refine go_aload_n (q := 2) (i := 2) rfl rfl dX0_fillBank_16 ?_
  refine go_aload_n (q := 0) (i := 0) rfl rfl dX0_fillBank_17 ?_
  refine go_getI lf0_30 rfl hd.o dX0_fillBank_18 ?_
  rw [hat]
  refine go_iconst (v := nI 2) (by decide) dX0_fillBank_21 ?_
  refine gn_add dX0_fillBank_22 ?_
  refine go_iconst (v := nI 0) (by decide) dX0_fillBank_23 ?_
  refine go_iconst (v := nI 4) (by decide) dX0_fillBank_24 ?_
  refine go_callV okmX0_number lmX0_80 ⟨nle rfl, nle rfl⟩ hd.o ⟨by decide, rfl⟩ (ev_number (a := 0) (b := 4) hT hw hf (by omega) hk2 (hV _ hk2) (by omega) (by omega)) npmX0_number rfl (nle rfl) ⟨nle rfl, nle rfl⟩ dX0_fillBank_25 ?_
  rintro _ m2 ⟨rfl, f1, c1⟩
  rw [wq_e (d := 4 < (vG B n z (p + 2))) (by omega)] at f1
  have fd := fd.tr (c1).fd
  have hT := (c1).t hT
  have hw := (c1).w hw
  have hd := FD.w0 ((c1).fd (dr := dr)) hd
  have hp := FD.w7 ((c1).fd (dr := dr)) hp
  have hC := hC.fz (by omega) c1
  have hat : gI m2 10 4 = nI p := by rw [(c1).1.at (by decide)]; exact hat
  have hf := f1
  refine go_c1 ?_
  refine go_istore (i := 4) dX0_fillBank_28 (nle rfl) (nle rfl) ?_
  refine go_L (L' := [some (.ref 10), some (.ref dr), some (.ref 3), some (.int (nI ((vG B n z (p + 1))))), some (.int (nI ((vG B n z (p + 2))))), none]) rfl ?_
  refine go_aload_n (q := 0) (i := 0) rfl rfl dX0_fillBank_30 ?_
  refine go_aload_n (q := 2) (i := 2) rfl rfl dX0_fillBank_31 ?_
  refine go_aload_n (q := 0) (i := 0) rfl rfl dX0_fillBank_32 ?_
  refine go_getI lf0_30 rfl hd.o dX0_fillBank_33 ?_
  rw [hat]
  refine go_iconst (v := nI 3) (by decide) dX0_fillBank_36 ?_
  refine gn_add dX0_fillBank_37 ?_
  refine go_iconst (v := nI 0) (by decide) dX0_fillBank_38 ?_
  refine go_bipush (v := nI 99) (by decide) dX0_fillBank_39 ?_
  refine go_callV okmX0_number lmX0_80 ⟨nle rfl, nle rfl⟩ hd.o ⟨by decide, rfl⟩ (ev_number (a := 0) (b := 99) hT hw hf (by omega) hk3 (hV _ hk3) (by omega) (by omega)) npmX0_number rfl (nle rfl) ⟨nle rfl, nle rfl⟩ dX0_fillBank_41 ?_
  rintro _ m3 ⟨rfl, f1, c1⟩
  rw [wq_e (d := 99 < (vG B n z (p + 3))) (by omega)] at f1
  have fd := fd.tr (c1).fd
  have hT := (c1).t hT
  have hw := (c1).w hw
  have hd := FD.w0 ((c1).fd (dr := dr)) hd
  have hp := FD.w7 ((c1).fd (dr := dr)) hp
  have hC := hC.fz (by omega) c1
  have hat : gI m3 10 4 = nI p := by rw [(c1).1.at (by decide)]; exact hat
  have hf := f1
  refine go_c1 ?_
  refine go_istore (i := 5) dX0_fillBank_44 (nle rfl) (nle rfl) ?_
  refine go_L (L' := [some (.ref 10), some (.ref dr), some (.ref 3), some (.int (nI ((vG B n z (p + 1))))), some (.int (nI ((vG B n z (p + 2))))), some (.int (nI ((vG B n z (p + 3)))))]) rfl ?_
  refine go_iload_n (q := 3) (i := 3) rfl rfl dX0_fillBank_46 ?_
  refine gz_lt (by omega) (tgt := 81) dX0_fillBank_47 (by decide) (fun h47 => by exfalso; omega) (fun h47 => ?_)
  refine go_iload_n (q := 3) (i := 3) rfl rfl dX0_fillBank_50 ?_
  refine go_bipush (v := nI 8) (by decide) dX0_fillBank_51 ?_
  refine gn_ge (by omega) (by omega) (tgt := 81) dX0_fillBank_53 (by decide) (fun h53 => ?_) (fun h53 => ?_)
  · skip
    refine go_aload_n (q := 0) (i := 0) rfl rfl dX0_fillBank_81 ?_
    refine go_aload_n (q := 0) (i := 0) rfl rfl dX0_fillBank_82 ?_
    refine go_getI lf0_23 rfl hd.o dX0_fillBank_83 ?_
    refine go_iload_n (q := 3) (i := 3) rfl rfl dX0_fillBank_86 ?_
    refine go_max okMax (wg3 231 rfl rfl) ⟨nle rfl, nle rfl⟩ ⟨Nat.zero_le _, Nat.zero_le _⟩ dX0_fillBank_87 ?_
    refine go_putI lf0_23 rfl (Or.inl rfl) hd.o dX0_fillBank_90 ?_
    refine go_aload_n (q := 0) (i := 0) rfl rfl dX0_fillBank_93 ?_
    refine go_aload_n (q := 0) (i := 0) rfl rfl dX0_fillBank_94 ?_
    refine go_getI lf0_27 rfl hd.o dX0_fillBank_95 ?_
    refine go_iload (i := 4) rfl dX0_fillBank_98 ?_
    refine go_max okMax (wg3 231 rfl rfl) ⟨nle rfl, nle rfl⟩ ⟨Nat.zero_le _, Nat.zero_le _⟩ dX0_fillBank_100 ?_
    refine go_putI lf0_27 rfl (Or.inl rfl) hd.o dX0_fillBank_103 ?_
    refine go_aload_n (q := 1) (i := 1) rfl rfl dX0_fillBank_106 ?_
    refine go_dup rfl dX0_fillBank_107 ?_
    refine go_getI lf0_164 rfl hp.o dX0_fillBank_108 ?_
    rw [gI_n (by omega), gI_n (by omega), hC.1.2.2.2.2.1]
    refine go_iconst (v := nI 1) (by decide) dX0_fillBank_111 ?_
    refine gn_add dX0_fillBank_112 ?_
    refine go_putI lf0_164 rfl (Or.inl rfl) hp.o dX0_fillBank_113 ?_
    refine go_vret rfl ⟨Nat.zero_le _, Nat.zero_le _⟩ dX0_fillBank_116 ?_
    refine ⟨rfl, FT.of hf (by rw [gI_n (by omega), gI_n (by omega), gI_n (by omega)]), fun hz => ?_, ((fd.fa (by decide)).fa (by decide)).pl (by omega) ⟨by omega, by omega⟩⟩
    exfalso
    obtain ⟨z1, hz⟩ := wq_z (by decide) hz
    obtain ⟨z2, hz⟩ := wq_z (by decide) hz
    obtain ⟨z3, hz⟩ := wq_z (by decide) hz
    omega
  · skip
    refine go_iload (i := 4) rfl dX0_fillBank_56 ?_
    refine gz_lt (by omega) (tgt := 81) dX0_fillBank_58 (by decide) (fun h58 => by exfalso; omega) (fun h58 => ?_)
    refine go_iload (i := 4) rfl dX0_fillBank_61 ?_
    refine go_iconst (v := nI 5) (by decide) dX0_fillBank_63 ?_
    refine gn_ge (by omega) (by omega) (tgt := 81) dX0_fillBank_64 (by decide) (fun h64 => ?_) (fun h64 => ?_)
    · skip
      refine go_aload_n (q := 0) (i := 0) rfl rfl dX0_fillBank_81 ?_
      refine go_aload_n (q := 0) (i := 0) rfl rfl dX0_fillBank_82 ?_
      refine go_getI lf0_23 rfl hd.o dX0_fillBank_83 ?_
      refine go_iload_n (q := 3) (i := 3) rfl rfl dX0_fillBank_86 ?_
      refine go_max okMax (wg3 231 rfl rfl) ⟨nle rfl, nle rfl⟩ ⟨Nat.zero_le _, Nat.zero_le _⟩ dX0_fillBank_87 ?_
      refine go_putI lf0_23 rfl (Or.inl rfl) hd.o dX0_fillBank_90 ?_
      refine go_aload_n (q := 0) (i := 0) rfl rfl dX0_fillBank_93 ?_
      refine go_aload_n (q := 0) (i := 0) rfl rfl dX0_fillBank_94 ?_
      refine go_getI lf0_27 rfl hd.o dX0_fillBank_95 ?_
      refine go_iload (i := 4) rfl dX0_fillBank_98 ?_
      refine go_max okMax (wg3 231 rfl rfl) ⟨nle rfl, nle rfl⟩ ⟨Nat.zero_le _, Nat.zero_le _⟩ dX0_fillBank_100 ?_
      refine go_putI lf0_27 rfl (Or.inl rfl) hd.o dX0_fillBank_103 ?_
      refine go_aload_n (q := 1) (i := 1) rfl rfl dX0_fillBank_106 ?_
      refine go_dup rfl dX0_fillBank_107 ?_
      refine go_getI lf0_164 rfl hp.o dX0_fillBank_108 ?_
      rw [gI_n (by omega), gI_n (by omega), hC.1.2.2.2.2.1]
      refine go_iconst (v := nI 1) (by decide) dX0_fillBank_111 ?_
      refine gn_add dX0_fillBank_112 ?_
      refine go_putI lf0_164 rfl (Or.inl rfl) hp.o dX0_fillBank_113 ?_
      refine go_vret rfl ⟨Nat.zero_le _, Nat.zero_le _⟩ dX0_fillBank_116 ?_
      refine ⟨rfl, FT.of hf (by rw [gI_n (by omega), gI_n (by omega), gI_n (by omega)]), fun hz => ?_, ((fd.fa (by decide)).fa (by decide)).pl (by omega) ⟨by omega, by omega⟩⟩
      exfalso
      obtain ⟨z1, hz⟩ := wq_z (by decide) hz
      obtain ⟨z2, hz⟩ := wq_z (by decide) hz
      obtain ⟨z3, hz⟩ := wq_z (by decide) hz
      omega
    · skip
      refine go_aload_n (q := 1) (i := 1) rfl rfl dX0_fillBank_67 ?_
      refine go_getR lf0_155 rfl hp.o hp.r9 dX0_fillBank_68 ?_
      refine go_iload (i := 4) rfl dX0_fillBank_71 ?_
      refine go_bipush (v := nI 8) (by decide) dX0_fillBank_73 ?_
      refine gn_mul dX0_fillBank_75 ?_
      refine go_iload_n (q := 3) (i := 3) rfl rfl dX0_fillBank_76 ?_
      refine gn_add dX0_fillBank_77 ?_
      refine go_iload (i := 5) rfl dX0_fillBank_78 ?_
      refine go_iast (j := ((((vG B n z (p + 2))) * 8) + ((vG B n z (p + 1))))) hp.i9 (by omega) (by first | decide | omega) rfl dX0_fillBank_80 ?_
      refine go_aload_n (q := 0) (i := 0) rfl rfl dX0_fillBank_81 ?_
      refine go_aload_n (q := 0) (i := 0) rfl rfl dX0_fillBank_82 ?_
      refine go_getI lf0_23 rfl hd.o dX0_fillBank_83 ?_
      refine go_iload_n (q := 3) (i := 3) rfl rfl dX0_fillBank_86 ?_
      refine go_max okMax (wg3 231 rfl rfl) ⟨nle rfl, nle rfl⟩ ⟨Nat.zero_le _, Nat.zero_le _⟩ dX0_fillBank_87 ?_
      refine go_putI lf0_23 rfl (Or.inl rfl) hd.o dX0_fillBank_90 ?_
      refine go_aload_n (q := 0) (i := 0) rfl rfl dX0_fillBank_93 ?_
      refine go_aload_n (q := 0) (i := 0) rfl rfl dX0_fillBank_94 ?_
      refine go_getI lf0_27 rfl hd.o dX0_fillBank_95 ?_
      refine go_iload (i := 4) rfl dX0_fillBank_98 ?_
      refine go_max okMax (wg3 231 rfl rfl) ⟨nle rfl, nle rfl⟩ ⟨Nat.zero_le _, Nat.zero_le _⟩ dX0_fillBank_100 ?_
      refine go_putI lf0_27 rfl (Or.inl rfl) hd.o dX0_fillBank_103 ?_
      refine go_aload_n (q := 1) (i := 1) rfl rfl dX0_fillBank_106 ?_
      refine go_dup rfl dX0_fillBank_107 ?_
      refine go_getI lf0_164 rfl hp.o dX0_fillBank_108 ?_
      rw [gI_n (by omega), gI_n (by omega), gI_n (by omega), hC.1.2.2.2.2.1]
      refine go_iconst (v := nI 1) (by decide) dX0_fillBank_111 ?_
      refine gn_add dX0_fillBank_112 ?_
      refine go_putI lf0_164 rfl (Or.inl rfl) hp.o dX0_fillBank_113 ?_
      refine go_vret rfl ⟨Nat.zero_le _, Nat.zero_le _⟩ dX0_fillBank_116 ?_
      refine ⟨rfl, FT.of hf (by rw [gI_n (by omega), gI_n (by omega), gI_n (by omega), gI_n (by omega)]), fun hz => ?_, (((fd.pl (by omega) ⟨by omega, by omega⟩).fa (by decide)).fa (by decide)).pl (by omega) ⟨by omega, by omega⟩⟩
      refine hC.ba (by omega) (by omega) (by omega) (by omega) ?_ ?_ ?_ ?_ (fun x a b c d => ?_) (fun x => rfl)
      · rw [gI_s, gI_n (by omega), gI_n (by omega), gI_n (by omega)]
      · rw [gI_n (by omega), gI_n (by omega), gI_n (by omega), gI_s]
      · rw [gI_n (by omega), gI_s, upd_ne (by decide), gI_s, upd_same, gI_n (by omega), hC.2.2.2.2.2.2.1.1]
        exact mx_m1 (by omega) (by omega)
      · rw [gI_n (by omega), gI_s, upd_same, gI_s, upd_ne (by decide), gI_n (by omega), hC.2.2.2.2.2.2.1.2]
        exact mx_m1 (by omega) (by omega)
      · rw [gI_n b, gI_n d, gI_n d, gI_n c]
