theorem p01 (p : Prop) : pit p (nI 1) (nI 0) = nI 0 ∨ pit p (nI 1) (nI 0) = nI 1 := by
  by_cases h : p
  · rw [pit_t h]; exact Or.inr rfl
  · rw [pit_f h]; exact Or.inl rfl
theorem pit_e {p q : Prop} (h : p ↔ q) : pit p (nI 1) (nI 0) = pit q (nI 1) (nI 0) := by rw [propext h]
def WgA (pl : Nat) : Nat → Prop := fun x => x = 14 ∨ x = pl + 12 ∨ x = pl + 13 ∨ (215 ≤ x ∧ x ≤ 222)
theorem PlC.wg {m m' : Me} {pl dr : Nat} {P : Pl} (hX : CX m.1 (gR m) pl dr) (c : Ch (WgA pl) m m') (h : PlC m pl P) : PlC m' pl P := by
  have := hX.pd
  exact h.keep (fun x h1 h2 h3 => c.at (by unfold WgA; omega))
theorem Td.ch {A : Nat → Prop} {m m' : Me} {a b c t : Nat} {tc th tf : Nat → Nat} (h : Td m a b c t tc th tf) (k : Ch A m m') (ha : ¬ A a) (hb : ¬ A b) (hc : ¬ A c) : Td m' a b c t tc th tf := fun i hi => by
  rw [k.at ha, k.at hb, k.at hc]; exact h i hi
set_option maxRecDepth 100000 in
set_option maxHeartbeats 8000000 in
theorem ev_agrees {m : Me} {P : Pl} {row : Nat → Int32} {h : Nat} {t k : Nat} {tc th tf : Nat → Nat} (hh : Wf4 m.1 (gR m) 211) (hT : Td m 212 213 214 t tc th tf) (hTO : TdO P t tc th tf) (hk : k ≤ t) (hh24 : h < 2 ^ 20) (hf : ∀ c, c < 40 → gI m 216 c = row c) : Ev mX4_agrees [.ref 211, .int (nI k), .int (nI h)] m (fun o m' => o = some (.int (pit (∀ j, j < k → th j = h → row (tc j) = nI (tf j)) (nI 1) (nI 0))) ∧ m' = m) := by
  refine ⟨plmX4_agrees, nle rfl, ?_⟩
  have hk20 := hTO.1
  have key : ∀ i, i ≤ k → (∀ j, j < i → th j = h → row (tc j) = nI (tf j)) → ∀ x4 : Option Value, Go mX4_agrees (fun o m' => o = some (.int (pit (∀ j, j < k → th j = h → row (tc j) = nI (tf j)) (nI 1) (nI 0))) ∧ m' = m) 2 [some (.ref 211), some (.int (nI k)), some (.int (nI h)), some (.int (nI i)), x4] [] m 0 0 := by
    refine loop_up k ?_ ?_
    · intro hn x4
      have hk20 := hTO.1
      refine go_iload_n (q := 3) (i := 3) rfl rfl dX4_agrees_2 ?_
      refine go_iload_n (q := 1) (i := 1) rfl rfl dX4_agrees_3 ?_
      refine gn_ge (by omega) (by omega) (tgt := 70) dX4_agrees_4 (by decide) (fun h4 => ?_) (fun h4 => by exfalso; omega)
      refine go_iconst (v := nI 1) (by decide) dX4_agrees_70 ?_
      refine go_zret rfl (by decide) ⟨Nat.zero_le _, Nat.zero_le _⟩ dX4_agrees_71 ?_
      exact ⟨by rw [pit_t hn], rfl⟩
    · intro i hi ih hn x4
      have hk20 := hTO.1
      have hci := (hTO.2 i (by omega)).1
      have hhi := (hTO.2 i (by omega)).2.2.1
      have hfi := (hTO.2 i (by omega)).2.2.2
      refine go_iload_n (q := 3) (i := 3) rfl rfl dX4_agrees_2 ?_
      refine go_iload_n (q := 1) (i := 1) rfl rfl dX4_agrees_3 ?_
      refine gn_ge (by omega) (by omega) (tgt := 70) dX4_agrees_4 (by decide) (fun h4 => by exfalso; omega) (fun h4 => ?_)
      refine go_iload_n (q := 3) (i := 3) rfl rfl dX4_agrees_7 ?_
      refine go_bipush (v := nI 20) (by decide) dX4_agrees_8 ?_
      refine gn_ge (by omega) (by omega) (tgt := 70) dX4_agrees_10 (by decide) (fun h10 => by exfalso; omega) (fun h10 => ?_)
      refine go_aload_n (q := 0) (i := 0) rfl rfl dX4_agrees_13 ?_
      refine go_getR lf4_9 rfl hh.o hh.r0 dX4_agrees_14 ?_
      refine go_iload_n (q := 3) (i := 3) rfl rfl dX4_agrees_17 ?_
      refine go_iald (j := i) hh.i0 (by omega) (by first | decide | omega) rfl dX4_agrees_18 ?_
      rw [(hT i (by omega)).1]
      refine go_istore (i := 4) dX4_agrees_19 (nle rfl) (nle rfl) ?_
      refine go_aload_n (q := 0) (i := 0) rfl rfl dX4_agrees_21 ?_
      refine go_getR lf4_15 rfl hh.o hh.r1 dX4_agrees_22 ?_
      refine go_iload_n (q := 3) (i := 3) rfl rfl dX4_agrees_25 ?_
      refine go_iald (j := i) hh.i1 (by omega) (by first | decide | omega) rfl dX4_agrees_26 ?_
      rw [(hT i (by omega)).2.1]
      refine go_iload_n (q := 2) (i := 2) rfl rfl dX4_agrees_27 ?_
      refine gn_ne (by omega) (by omega) (tgt := 64) dX4_agrees_28 (by decide) (fun h28 => ?_) (fun h28 => ?_)
      · skip
        refine gn_inc (i := 3) (a := i) (q := 1) rfl dX4_agrees_64 (nle rfl) rfl ?_
        refine go_goto (tgt := 2) dX4_agrees_67 (by decide) ?_
        refine ih (fun j hj e => ?_) _
        by_cases q : j = i
        · rw [q] at e ⊢
          exact absurd e h28
        · exact hn j (by omega) e
      · skip
        refine go_iload (i := 4) rfl dX4_agrees_31 ?_
        refine gz_lt (by omega) (tgt := 64) dX4_agrees_33 (by decide) (fun h33 => by exfalso; omega) (fun h33 => ?_)
        refine go_iload (i := 4) rfl dX4_agrees_36 ?_
        refine go_bipush (v := nI 40) (by decide) dX4_agrees_38 ?_
        refine gn_ge (by omega) (by omega) (tgt := 64) dX4_agrees_40 (by decide) (fun h40 => by exfalso; omega) (fun h40 => ?_)
        refine go_aload_n (q := 0) (i := 0) rfl rfl dX4_agrees_43 ?_
        refine go_getR lf4_24 rfl hh.o hh.r4 dX4_agrees_44 ?_
        refine go_getR lf4_75 rfl hh.w4.o hh.w4.r1 dX4_agrees_47 ?_
        refine go_iload (i := 4) rfl dX4_agrees_50 ?_
        refine go_iald (j := ((tc i))) hh.w4.i1 (by omega) (by first | decide | omega) rfl dX4_agrees_52 ?_
        rw [hf (tc i) (hTO.2 i (by omega)).1]
        refine go_aload_n (q := 0) (i := 0) rfl rfl dX4_agrees_53 ?_
        refine go_getR lf4_18 rfl hh.o hh.r2 dX4_agrees_54 ?_
        refine go_iload_n (q := 3) (i := 3) rfl rfl dX4_agrees_57 ?_
        refine go_iald (j := i) hh.i2 (by omega) (by first | decide | omega) rfl dX4_agrees_58 ?_
        rw [(hT i (by omega)).2.2]
        refine go_icmp_eq (tgt := 64) dX4_agrees_59 (by decide) (fun h59 => ?_) (fun h59 => ?_)
        · skip
          refine gn_inc (i := 3) (a := i) (q := 1) rfl dX4_agrees_64 (nle rfl) rfl ?_
          refine go_goto (tgt := 2) dX4_agrees_67 (by decide) ?_
          refine ih (fun j hj e => ?_) _
          by_cases q : j = i
          · rw [q] at e ⊢
            exact h59
          · exact hn j (by omega) e
        · skip
          refine go_iconst (v := nI 0) (by decide) dX4_agrees_62 ?_
          refine go_zret rfl (by decide) ⟨Nat.zero_le _, Nat.zero_le _⟩ dX4_agrees_63 ?_
          exact ⟨by rw [pit_f (fun z => h59 (z i hi h28))], rfl⟩
  refine go_iconst (v := nI 0) (by decide) dX4_agrees_0 ?_
  refine go_istore_n (q := 3) (i := 3) rfl dX4_agrees_1 (nle rfl) (nle rfl) ?_
  exact key 0 (Nat.zero_le _) (fun j h => absurd h (Nat.not_lt_zero j)) _
set_option maxRecDepth 100000 in
set_option maxHeartbeats 8000000 in
theorem ev_keepFog {m : Me} {s : Nat} (hh : Wf4 m.1 (gR m) 211) (hs : s ≤ 40) : Ev mX4_keepFog [.ref 211, .int (nI s)] m (fun o m' => o = none ∧ Ch (fun y => y = 222) m m' ∧ (∀ c, c < 40 → gI m' 222 (s * 40 + c) = gI m 216 c) ∧ ∀ z, (z < s * 40 ∨ s * 40 + 40 ≤ z) → gI m' 222 z = gI m 222 z) := by
  refine ⟨plmX4_keepFog, nle rfl, ?_⟩
  have hh0 := hh
  have key : ∀ i, i ≤ 40 → ∀ mk : Me, Ch (fun y => y = 222) m mk → (∀ c, c < i → gI mk 222 (s * 40 + c) = gI m 216 c) → (∀ z, (z < s * 40 ∨ s * 40 + 40 ≤ z) → gI mk 222 z = gI m 222 z) → ∀ x3 : Option Value, Go mX4_keepFog (fun o m' => o = none ∧ Ch (fun y => y = 222) m m' ∧ (∀ c, c < 40 → gI m' 222 (s * 40 + c) = gI m 216 c) ∧ ∀ z, (z < s * 40 ∨ s * 40 + 40 ≤ z) → gI m' 222 z = gI m 222 z) 2 [some (.ref 211), some (.int (nI s)), some (.int (nI i)), x3] [] mk 0 0 := by
    refine loop_up 40 ?_ ?_
    · intro mk ck hc hl x3
      have hh : Wf4 mk.1 (gR mk) 211 := Ch.to (F := fun n R => Wf4 n R 211) ck hh0
      refine go_iload_n (q := 2) (i := 2) rfl rfl dX4_keepFog_2 ?_
      refine go_bipush (v := nI 40) (by decide) dX4_keepFog_3 ?_
      refine gn_ge (by omega) (by omega) (tgt := 47) dX4_keepFog_5 (by decide) (fun h5 => ?_) (fun h5 => by exfalso; omega)
      refine go_vret rfl ⟨Nat.zero_le _, Nat.zero_le _⟩ dX4_keepFog_47 ?_
      exact ⟨rfl, ck, hc, hl⟩
    · intro i hi ih mk ck hc hl x3
      have hh : Wf4 mk.1 (gR mk) 211 := Ch.to (F := fun n R => Wf4 n R 211) ck hh0
      refine go_iload_n (q := 2) (i := 2) rfl rfl dX4_keepFog_2 ?_
      refine go_bipush (v := nI 40) (by decide) dX4_keepFog_3 ?_
      refine gn_ge (by omega) (by omega) (tgt := 47) dX4_keepFog_5 (by decide) (fun h5 => by exfalso; omega) (fun h5 => ?_)
      refine go_iload_n (q := 1) (i := 1) rfl rfl dX4_keepFog_8 ?_
      refine go_bipush (v := nI 40) (by decide) dX4_keepFog_9 ?_
      refine gn_mul dX4_keepFog_11 ?_
      refine go_iload_n (q := 2) (i := 2) rfl rfl dX4_keepFog_12 ?_
      refine gn_add dX4_keepFog_13 ?_
      refine go_istore_n (q := 3) (i := 3) rfl dX4_keepFog_14 (nle rfl) (nle rfl) ?_
      refine go_iload_n (q := 3) (i := 3) rfl rfl dX4_keepFog_15 ?_
      refine gz_lt (by omega) (tgt := 41) dX4_keepFog_16 (by decide) (fun h16 => by exfalso; omega) (fun h16 => ?_)
      refine go_iload_n (q := 3) (i := 3) rfl rfl dX4_keepFog_19 ?_
      refine go_sipush (v := nI 1640) (by decide) dX4_keepFog_20 ?_
      refine gn_ge (by omega) (by omega) (tgt := 41) dX4_keepFog_23 (by decide) (fun h23 => by exfalso; omega) (fun h23 => ?_)
      refine go_aload_n (q := 0) (i := 0) rfl rfl dX4_keepFog_26 ?_
      refine go_getR lf4_32 rfl hh.o hh.r6 dX4_keepFog_27 ?_
      refine go_iload_n (q := 3) (i := 3) rfl rfl dX4_keepFog_30 ?_
      refine go_aload_n (q := 0) (i := 0) rfl rfl dX4_keepFog_31 ?_
      refine go_getR lf4_24 rfl hh.o hh.r4 dX4_keepFog_32 ?_
      refine go_getR lf4_75 rfl hh.w4.o hh.w4.r1 dX4_keepFog_35 ?_
      refine go_iload_n (q := 2) (i := 2) rfl rfl dX4_keepFog_38 ?_
      refine go_iald (j := i) hh.w4.i1 (by omega) (by first | decide | omega) rfl dX4_keepFog_39 ?_
      rw [ck.at (show ¬ _ by omega)]
      refine go_iast (j := ((s * 40) + i)) hh.i6 (by omega) (by first | decide | omega) rfl dX4_keepFog_40 ?_
      refine gn_inc (i := 2) (a := i) (q := 1) rfl dX4_keepFog_41 (nle rfl) rfl ?_
      refine go_goto (tgt := 2) dX4_keepFog_44 (by decide) ?_
      refine ih _ (ck.tr (Ch.I rfl)) (fun c h => ?_) (fun z h => ?_) _
      · rw [gI_s]
        by_cases e : c = i
        · rw [e, upd_eq]
        · rw [upd_ne (by omega)]; exact hc c (by omega)
      · rw [gI_s, upd_ne (by omega)]; exact hl z h
  refine go_iconst (v := nI 0) (by decide) dX4_keepFog_0 ?_
  refine go_istore_n (q := 2) (i := 2) rfl dX4_keepFog_1 (nle rfl) (nle rfl) ?_
  exact key 0 (Nat.zero_le _) m Ch.rf (fun c h => absurd h (Nat.not_lt_zero c)) (fun _ _ => rfl) _
theorem mx_n {a b : Nat} (ha : a < 2 ^ 31) (hb : b < 2 ^ 31) : (if nI a < nI b then nI b else nI a) = nI (if a < b then b else a) := by
  by_cases h : a < b
  · rw [if_pos (by rw [nI_ltI ha hb]; exact h), if_pos h]
  · rw [if_neg (by rw [nI_ltI ha hb]; exact h), if_neg h]
theorem lk_s {P : Pl} {s h : Nat} : lkR P s (h + 1) = hrM P (nI s) P.se (lkR P s h) := rfl
theorem ldS_c {P : Pl} {m : Me} {pl : Nat} (ok : PlOk P) (hP : PlC m pl P) {c : Nat} (hc : c < 40) : ldS (gI m (pl + 1)) c = pit (ld P c) (nI 1) (nI 0) := by
  unfold ldS
  rw [if_neg (by omega), hP.wh c hc]
  by_cases l : ld P c
  · rw [if_pos l, pit_t l, if_neg]
    rcases ok.2.2.2.2.2.2.2.2.1 c hc l with e | ⟨h, hh, e⟩
    · rw [e]; decide
    · have := ok.2.2.1
      rw [e]; exact fun z => i1m h (by omega) z.symm
  · rw [if_neg l, pit_f l, if_pos rfl]
theorem bgS_sI {m : Me} {pl a : Nat} {r : Nat → Int32} (h : a < pl) : bgS (sI m a r) pl = bgS m pl := by
  unfold bgS
  rw [gI_n (by omega), gI_n (by omega), gI_n (by omega)]
set_option maxRecDepth 100000 in
set_option maxHeartbeats 8000000 in
theorem ev_weigh {m : Me} {pl dr : Nat} {P : Pl} (hX : CX m.1 (gR m) pl dr) (hP : PlC m pl P) (ok : PlOk P) {t k n : Nat} {tc th tf : Nat → Nat} (hT : Td m 212 213 214 t tc th tf) (hTO : TdO P t tc th tf) (hk : k ≤ t) (hn24 : n ≤ 24) : Ev mX4_weigh [.ref 211, .ref pl, .ref 13, .int (nI k), .int (nI n)] m (fun o m' => o = some (.int (nI (cnt (fun s => Lf P k tc th tf s 25) 41))) ∧ Ch (WgA pl) m m' ∧ (∀ s, s ≤ 40 → gI m' 221 s = pit (Lf P k tc th tf s 25) (nI 1) (nI 0)) ∧ ∀ s, s ≤ 40 → Lf P k tc th tf s 25 → ∀ c, c < 40 → gI m' 222 (s * 40 + c) = lkR P s n c) := by
  refine ⟨plmX4_weigh, nle rfl, ?_⟩
  have hX0 := hX
  have hP0 := hP
  have hT0 := hT
  have hpd := hX.pd
  have hk20 := hTO.1
  have key0 : ∀ i, i ≤ k → ∀ La : Nat, La ≤ 24 → n ≤ La → (∀ j, j < i → th j ≤ La) → Go mX4_weigh (fun o m' => o = some (.int (nI (cnt (fun s => Lf P k tc th tf s 25) 41))) ∧ Ch (WgA pl) m m' ∧ (∀ s, s ≤ 40 → gI m' 221 s = pit (Lf P k tc th tf s 25) (nI 1) (nI 0)) ∧ ∀ s, s ≤ 40 → Lf P k tc th tf s 25 → ∀ c, c < 40 → gI m' 222 (s * 40 + c) = lkR P s n c) 10 [some (.ref 211), some (.ref pl), some (.ref 13), some (.int (nI k)), some (.int (nI n)), some (.int (nI 0)), some (.int (nI La)), some (.int (nI i)), none] [] m 0 0 := by
    refine loop_up k ?_ ?_
    · intro La hLa1 hLa2 hLa3
      skip
      refine go_iload (i := 7) rfl dX4_weigh_10 ?_
      refine go_iload_n (q := 3) (i := 3) rfl rfl dX4_weigh_12 ?_
      refine gn_ge (by omega) (by omega) (tgt := 43) dX4_weigh_13 (by decide) (fun h13 => ?_) (fun h13 => by exfalso; omega)
      refine go_iconst (v := nI 0) (by decide) dX4_weigh_43 ?_
      refine go_istore (i := 7) dX4_weigh_44 (nle rfl) (nle rfl) ?_
      have key : ∀ i, i ≤ 41 → ∀ mi : Me, Ch (WgA pl) m mi → (∀ j, j < i → gI mi 221 j = pit (Lf P k tc th tf j 25) (nI 1) (nI 0)) → (∀ j, j < i → Lf P k tc th tf j 25 → ∀ c, c < 40 → gI mi 222 (j * 40 + c) = lkR P j n c) → ∀ x8 : Option Value, Go mX4_weigh (fun o m' => o = some (.int (nI (cnt (fun s => Lf P k tc th tf s 25) 41))) ∧ Ch (WgA pl) m m' ∧ (∀ s, s ≤ 40 → gI m' 221 s = pit (Lf P k tc th tf s 25) (nI 1) (nI 0)) ∧ ∀ s, s ≤ 40 → Lf P k tc th tf s 25 → ∀ c, c < 40 → gI m' 222 (s * 40 + c) = lkR P s n c) 46 [some (.ref 211), some (.ref pl), some (.ref 13), some (.int (nI k)), some (.int (nI n)), some (.int (nI (cnt (fun s => Lf P k tc th tf s 25) i))), some (.int (nI La)), some (.int (nI i)), x8] [] mi 0 0 := by
        refine loop_up 41 ?_ ?_
        · intro mi ci hl hf x8
          have hX := CX.to ci hX0
          have hP := PlC.wg hX0 ci hP0
          have hT := hT0.ch ci (by unfold WgA; omega) (by unfold WgA; omega) (by unfold WgA; omega)
          refine go_iload (i := 7) rfl dX4_weigh_46 ?_
          refine go_bipush (v := nI 40) (by decide) dX4_weigh_48 ?_
          refine gn_gt (by omega) (by omega) (tgt := 183) dX4_weigh_50 (by decide) (fun h50 => ?_) (fun h50 => by exfalso; omega)
          refine go_iload (i := 5) rfl dX4_weigh_183 ?_
          refine go_iret rfl ⟨Nat.zero_le _, Nat.zero_le _⟩ dX4_weigh_185 ?_
          exact ⟨rfl, ci, fun s hs => hl s (by omega), fun s hs a => hf s (by omega) a⟩
        · intro i hi ih mi ci hl hf x8
          have hX := CX.to ci hX0
          have hP := PlC.wg hX0 ci hP0
          have hT := hT0.ch ci (by unfold WgA; omega) (by unfold WgA; omega) (by unfold WgA; omega)
          have tail : ∀ mj : Me, Ch (WgA pl) m mj → (∀ j, j < i + 1 → gI mj 221 j = pit (Lf P k tc th tf j 25) (nI 1) (nI 0)) → (∀ j, j < i + 1 → Lf P k tc th tf j 25 → ∀ c, c < 40 → gI mj 222 (j * 40 + c) = lkR P j n c) → ∀ x8 : Option Value, Go mX4_weigh (fun o m' => o = some (.int (nI (cnt (fun s => Lf P k tc th tf s 25) 41))) ∧ Ch (WgA pl) m m' ∧ (∀ s, s ≤ 40 → gI m' 221 s = pit (Lf P k tc th tf s 25) (nI 1) (nI 0)) ∧ ∀ s, s ≤ 40 → Lf P k tc th tf s 25 → ∀ c, c < 40 → gI m' 222 (s * 40 + c) = lkR P s n c) 157 [some (.ref 211), some (.ref pl), some (.ref 13), some (.int (nI k)), some (.int (nI n)), some (.int (nI (cnt (fun s => Lf P k tc th tf s 25) i))), some (.int (nI La)), some (.int (nI i)), x8] [] mj 0 0 := by
            intro mj cj hl hf x8
            have hX := CX.to cj hX0
            have hP := PlC.wg hX0 cj hP0
            have hT := hT0.ch cj (by unfold WgA; omega) (by unfold WgA; omega) (by unfold WgA; omega)
            have hcl := cnt_le (p := fun s => Lf P k tc th tf s 25) i
            refine go_iload (i := 5) rfl dX4_weigh_157 ?_
            refine go_aload_n (q := 0) (i := 0) rfl rfl dX4_weigh_159 ?_
            refine go_getR lf4_28 rfl hX.w10.o hX.w10.r5 dX4_weigh_160 ?_
            refine go_iload (i := 7) rfl dX4_weigh_163 ?_
            refine go_zald (j := i) hX.w10.i5 (by omega) (by first | decide | omega) rfl dX4_weigh_165 ?_
            rw [hl i (by omega)]
            refine go_if_eq (tgt := 173) dX4_weigh_166 (by decide) (fun h166 => ?_) (fun h166 => ?_)
            · skip
              refine go_iconst (v := nI 0) (by decide) dX4_weigh_173 ?_
              refine gn_add dX4_weigh_174 ?_
              refine go_istore (i := 5) dX4_weigh_175 (nle rfl) (nle rfl) ?_
              refine gn_inc (i := 7) (a := i) (q := 1) rfl dX4_weigh_177 (nle rfl) rfl ?_
              refine go_goto (tgt := 46) dX4_weigh_180 (by decide) ?_
              rw [show (cnt (fun s => Lf P k tc th tf s 25) i) + 0 = (cnt (fun s => Lf P k tc th tf s 25) (i + 1)) from (cnt_f (p := fun s => Lf P k tc th tf s 25) (pz.mp h166)).symm]
              exact ih _ cj hl hf _
            · skip
              refine go_iconst (v := nI 1) (by decide) dX4_weigh_169 ?_
              refine go_goto (tgt := 174) dX4_weigh_170 (by decide) ?_
              refine gn_add dX4_weigh_174 ?_
              refine go_istore (i := 5) dX4_weigh_175 (nle rfl) (nle rfl) ?_
              refine gn_inc (i := 7) (a := i) (q := 1) rfl dX4_weigh_177 (nle rfl) rfl ?_
              refine go_goto (tgt := 46) dX4_weigh_180 (by decide) ?_
              rw [show (cnt (fun s => Lf P k tc th tf s 25) i) + 1 = (cnt (fun s => Lf P k tc th tf s 25) (i + 1)) from (cnt_t (p := fun s => Lf P k tc th tf s 25) (pnz h166)).symm]
              exact ih _ cj hl hf _
          have keyh : ∀ h, h ≤ (La + 1) → ∀ mj : Me, Ch (WgA pl) m mj → CR P (gw mj 215) (lkR P i h) → gI mj 221 i = pit (Lf P k tc th tf i h) (nI 1) (nI 0) → (∀ j, j < i → gI mj 221 j = pit (Lf P k tc th tf j 25) (nI 1) (nI 0)) → (∀ j, j < i → Lf P k tc th tf j 25 → ∀ c, c < 40 → gI mj 222 (j * 40 + c) = lkR P j n c) → (n < h → Lf P k tc th tf i h → ∀ c, c < 40 → gI mj 222 (i * 40 + c) = lkR P i n c) → Go mX4_weigh (fun o m' => o = some (.int (nI (cnt (fun s => Lf P k tc th tf s 25) 41))) ∧ Ch (WgA pl) m m' ∧ (∀ s, s ≤ 40 → gI m' 221 s = pit (Lf P k tc th tf s 25) (nI 1) (nI 0)) ∧ ∀ s, s ≤ 40 → Lf P k tc th tf s 25 → ∀ c, c < 40 → gI m' 222 (s * 40 + c) = lkR P s n c) 92 [some (.ref 211), some (.ref pl), some (.ref 13), some (.int (nI k)), some (.int (nI n)), some (.int (nI (cnt (fun s => Lf P k tc th tf s 25) i))), some (.int (nI La)), some (.int (nI i)), some (.int (nI h))] [] mj 0 0 := by
            refine loop_up (La + 1) ?_ ?_
            · intro mj cj hcr hli hl hf hfi
              have hX := CX.to cj hX0
              have hP := PlC.wg hX0 cj hP0
              have hT := hT0.ch cj (by unfold WgA; omega) (by unfold WgA; omega) (by unfold WgA; omega)
              refine go_iload (i := 8) rfl dX4_weigh_92 ?_
              refine go_iload (i := 6) rfl dX4_weigh_94 ?_
              refine gn_gt (by omega) (by omega) (tgt := 157) dX4_weigh_96 (by decide) (fun h96 => ?_) (fun h96 => by exfalso; omega)
              exact tail mj cj (fun j hj => by
                by_cases e : j = i
                · rw [e, hli]; exact pit_e ⟨Lf_all (fun q hq => by have := hLa3 q hq; omega), Lf_mono (by omega)⟩
                · exact hl j (by omega)) (fun j hj a c hc => by
                by_cases e : j = i
                · rw [e] at a ⊢
                  exact hfi (by omega) (Lf_mono (by omega) a) c hc
                · exact hf j (by omega) a c hc) _
            · intro h hh ihh mj cj hcr hli hl hf hfi
              have hX := CX.to cj hX0
              have hP := PlC.wg hX0 cj hP0
              have hT := hT0.ch cj (by unfold WgA; omega) (by unfold WgA; omega) (by unfold WgA; omega)
              refine go_iload (i := 8) rfl dX4_weigh_92 ?_
              refine go_iload (i := 6) rfl dX4_weigh_94 ?_
              refine gn_gt (by omega) (by omega) (tgt := 157) dX4_weigh_96 (by decide) (fun h96 => by exfalso; omega) (fun h96 => ?_)
              refine go_aload_n (q := 0) (i := 0) rfl rfl dX4_weigh_99 ?_
              refine go_getR lf4_28 rfl hX.w10.o hX.w10.r5 dX4_weigh_100 ?_
              refine go_iload (i := 7) rfl dX4_weigh_103 ?_
              refine go_zald (j := i) hX.w10.i5 (by omega) (by first | decide | omega) rfl dX4_weigh_105 ?_
              rw [hli]
              refine go_if_eq (tgt := 157) dX4_weigh_106 (by decide) (fun h106 => ?_) (fun h106 => ?_)
              · skip
                exact tail mj cj (fun j hj => by
                  by_cases e : j = i
                  · rw [e, hli]; exact pit_e ⟨fun z => absurd z (pz.mp h106), fun z => absurd (Lf_mono (by omega) z) (pz.mp h106)⟩
                  · exact hl j (by omega)) (fun j hj a c hc => by
                  by_cases e : j = i
                  · rw [e] at a ⊢
                    exact absurd (Lf_mono (by omega) a) (pz.mp h106)
                  · exact hf j (by omega) a c hc) _
              · skip
                refine go_aload_n (q := 0) (i := 0) rfl rfl dX4_weigh_109 ?_
                refine go_getR lf4_28 rfl hX.w10.o hX.w10.r5 dX4_weigh_110 ?_
                refine go_iload (i := 7) rfl dX4_weigh_113 ?_
                refine go_aload_n (q := 0) (i := 0) rfl rfl dX4_weigh_115 ?_
                refine go_iload_n (q := 3) (i := 3) rfl rfl dX4_weigh_116 ?_
                refine go_iload (i := 8) rfl dX4_weigh_117 ?_
                refine go_callV okmX4_agrees lmX4_58 ⟨nle rfl, nle rfl⟩ hX.w10.o ⟨by decide, rfl⟩ (ev_agrees (P := P) (row := lkR P i h) hX.w10 hT hTO hk (by omega) (fun c hc => (gw_f (g := 215) hc).trans (hcr.f hc))) npmX4_agrees rfl (nle rfl) ⟨nle rfl, nle rfl⟩ dX4_weigh_119 ?_
                rintro _ mz ⟨rfl, hz⟩
                subst mz
                refine go_c1 ?_
                refine go_zast (j := i) hX.w10.i5 (by omega) (by first | decide | omega) rfl (z01 (p01 _)) dX4_weigh_122 ?_
                have hLh := pnz h106
                generalize hmA : sI mj 221 _ = mA
                have cA : Ch (fun y => y = 221) mj mA := by rw [← hmA]; exact Ch.I rfl
                have cjA : Ch (WgA pl) m mA := cj.tr (cA.mn (fun y hy => by unfold WgA; omega))
                have hlA : gI mA 221 i = pit (Lf P k tc th tf i (h + 1)) (nI 1) (nI 0) := by
                  rw [← hmA, gI_s, upd_eq]
                  exact pit_e ⟨fun z => Lf_s.mpr ⟨hLh, z⟩, fun z => (Lf_s.mp z).2⟩
                have hlA2 : ∀ j, j < i → gI mA 221 j = gI mj 221 j := fun j hj => by rw [← hmA, gI_s, upd_ne (by omega)]
                have hcrA : CR P (gw mA 215) (lkR P i h) := by rw [gw_keep cA (fun y a b => by omega)]; exact hcr
                have hX := CX.to cA hX
                have hP := PlC.wg hX0 cjA hP0
                refine go_iload (i := 8) rfl dX4_weigh_123 ?_
                refine go_iload (i := 4) rfl dX4_weigh_125 ?_
                refine gn_ne (by omega) (by omega) (tgt := 136) dX4_weigh_127 (by decide) (fun h127 => ?_) (fun h127 => ?_)
                · skip
                  refine go_aload_n (q := 2) (i := 2) rfl rfl dX4_weigh_136 ?_
                  refine go_aload_n (q := 1) (i := 1) rfl rfl dX4_weigh_137 ?_
                  refine go_aload_n (q := 0) (i := 0) rfl rfl dX4_weigh_138 ?_
                  refine go_getR lf4_24 rfl hX.w10.o hX.w10.r4 dX4_weigh_139 ?_
                  refine go_aload_n (q := 1) (i := 1) rfl rfl dX4_weigh_142 ?_
                  refine go_getI lf4_66 rfl hX.wp.o dX4_weigh_143 ?_
                  rw [hP.se]
                  refine go_iload (i := 7) rfl dX4_weigh_146 ?_
                  refine go_callV okmX8_passHour lmX4_69 ⟨nle rfl, nle rfl⟩ hX.w4.o ⟨by decide, rfl⟩ (ev_hour (M := 0 + h) (se := P.se) (lk := nI i) hX.w4 hX.wp hX.w10.w4 hP ok (by omega) (by omega) (by omega) (by omega) (hrN_ok ok (bgM_ok ok) h (by omega)) hcrA) npmX8_passHour rfl (nle rfl) ⟨nle rfl, nle rfl⟩ dX4_weigh_148 ?_
                  rintro _ mC ⟨rfl, cC, hC⟩
                  have cC : Ch (fun x => x = 14 ∨ x = pl + 12 ∨ x = pl + 13 ∨ (215 ≤ x ∧ x ≤ 220)) _ mC := cC.mn (fun x hx => by omega)
                  refine go_c0 ?_
                  refine gn_inc (i := 8) (a := h) (q := 1) rfl dX4_weigh_151 (nle rfl) rfl ?_
                  refine go_goto (tgt := 92) dX4_weigh_154 (by decide) ?_
                  refine ihh _ (cjA.tr (cC.mn (fun x hx => by unfold WgA; omega))) hC ?_ (fun j hj => ?_) (fun j hj a c hc => ?_) (fun hn a c hc => ?_)
                  · rw [cC.at (by omega)]; exact hlA
                  · rw [cC.at (by omega), hlA2 j hj]; exact hl j hj
                  · rw [cC.at (by omega), cA.at (by omega)]; exact hf j hj a c hc
                  · rw [cC.at (by omega), cA.at (by omega)]; exact hfi (by omega) hLh c hc
                · skip
                  refine go_aload_n (q := 0) (i := 0) rfl rfl dX4_weigh_130 ?_
                  refine go_iload (i := 7) rfl dX4_weigh_131 ?_
                  refine go_callV okmX4_keepFog lmX4_62 ⟨nle rfl, nle rfl⟩ hX.w10.o ⟨by decide, rfl⟩ (ev_keepFog hX.w10 (by omega)) npmX4_keepFog rfl (nle rfl) ⟨nle rfl, nle rfl⟩ dX4_weigh_133 ?_
                  rintro _ mB ⟨rfl, cB, hB1, hB2⟩
                  have cjB := cjA.tr (cB.mn (fun y hy => by unfold WgA; omega))
                  have hX := CX.to cB hX
                  have hP := PlC.wg hX0 cjB hP0
                  refine go_c0 ?_
                  have hcrB : CR P (gw mB 215) (lkR P i h) := by rw [gw_keep cB (fun y a b => by omega)]; exact hcrA
                  refine go_aload_n (q := 2) (i := 2) rfl rfl dX4_weigh_136 ?_
                  refine go_aload_n (q := 1) (i := 1) rfl rfl dX4_weigh_137 ?_
                  refine go_aload_n (q := 0) (i := 0) rfl rfl dX4_weigh_138 ?_
                  refine go_getR lf4_24 rfl hX.w10.o hX.w10.r4 dX4_weigh_139 ?_
                  refine go_aload_n (q := 1) (i := 1) rfl rfl dX4_weigh_142 ?_
                  refine go_getI lf4_66 rfl hX.wp.o dX4_weigh_143 ?_
                  rw [hP.se]
                  refine go_iload (i := 7) rfl dX4_weigh_146 ?_
                  refine go_callV okmX8_passHour lmX4_69 ⟨nle rfl, nle rfl⟩ hX.w4.o ⟨by decide, rfl⟩ (ev_hour (M := 0 + h) (se := P.se) (lk := nI i) hX.w4 hX.wp hX.w10.w4 hP ok (by omega) (by omega) (by omega) (by omega) (hrN_ok ok (bgM_ok ok) h (by omega)) hcrB) npmX8_passHour rfl (nle rfl) ⟨nle rfl, nle rfl⟩ dX4_weigh_148 ?_
                  rintro _ mC ⟨rfl, cC, hC⟩
                  have cC : Ch (fun x => x = 14 ∨ x = pl + 12 ∨ x = pl + 13 ∨ (215 ≤ x ∧ x ≤ 220)) _ mC := cC.mn (fun x hx => by omega)
                  refine go_c0 ?_
                  refine gn_inc (i := 8) (a := h) (q := 1) rfl dX4_weigh_151 (nle rfl) rfl ?_
                  refine go_goto (tgt := 92) dX4_weigh_154 (by decide) ?_
                  refine ihh _ (cjB.tr (cC.mn (fun x hx => by unfold WgA; omega))) hC ?_ (fun j hj => ?_) (fun j hj a c hc => ?_) (fun hn a c hc => ?_)
                  · rw [cC.at (by omega), cB.at (by omega)]; exact hlA
                  · rw [cC.at (by omega), cB.at (by omega), hlA2 j hj]; exact hl j hj
                  · have := Nat.mul_le_mul_right 40 (show j + 1 ≤ i from hj)
                    rw [cC.at (by omega), hB2 _ (by omega), cA.at (by omega)]; exact hf j hj a c hc
                  · rw [cC.at (by omega), hB1 c hc, ← h127]
                    exact (gw_f (g := 215) hc).trans (hcrA.f hc)
          have hLf0 : Lf P k tc th tf i 0 ↔ (i = 40 ∨ ld P i) := ⟨fun z => z.1, fun z => ⟨z, fun q _ hq => absurd hq (Nat.not_lt_zero _)⟩⟩
          refine go_iload (i := 7) rfl dX4_weigh_46 ?_
          refine go_bipush (v := nI 40) (by decide) dX4_weigh_48 ?_
          refine gn_gt (by omega) (by omega) (tgt := 183) dX4_weigh_50 (by decide) (fun h50 => by exfalso; omega) (fun h50 => ?_)
          refine go_aload_n (q := 0) (i := 0) rfl rfl dX4_weigh_53 ?_
          refine go_getR lf4_28 rfl hX.w10.o hX.w10.r5 dX4_weigh_54 ?_
          refine go_iload (i := 7) rfl dX4_weigh_57 ?_
          refine go_iload (i := 7) rfl dX4_weigh_59 ?_
          refine go_bipush (v := nI 40) (by decide) dX4_weigh_61 ?_
          refine gn_eq (by omega) (by omega) (tgt := 75) dX4_weigh_63 (by decide) (fun h63 => ?_) (fun h63 => ?_)
          · skip
            refine go_iconst (v := nI 1) (by decide) dX4_weigh_75 ?_
            refine go_goto (tgt := 80) dX4_weigh_76 (by decide) ?_
            refine go_zast (j := i) hX.w10.i5 (by omega) (by first | decide | omega) rfl (by decide) dX4_weigh_80 ?_
            refine go_aload_n (q := 0) (i := 0) rfl rfl dX4_weigh_81 ?_
            refine go_getR lf4_24 rfl hX.w10.o hX.w10.r4 dX4_weigh_82 ?_
            refine go_aload_n (q := 1) (i := 1) rfl rfl dX4_weigh_85 ?_
            refine go_callV okmX1_begin lmX4_54 ⟨nle rfl, nle rfl⟩ hX.w10.w4.o ⟨by decide, rfl⟩ (ev_begin hX.w10.w4 hX.wp (by omega)) npmX1_begin rfl (nle rfl) ⟨nle rfl, nle rfl⟩ dX4_weigh_86 ?_
            rintro _ mB ⟨rfl, cB, eB⟩
            have cI : Ch (WgA pl) m mB := (ci.tr (show Ch (WgA pl) mi (sI mi 221 _) from Ch.I (by unfold WgA; omega))).tr (cB.mn (fun y hy => by unfold WgA; omega))
            have hcI : CR P (gw mB 215) (lkR P i 0) := by rw [eB, bgS_sI (by omega)]; exact bgS_cr ok hP
            have hlI : gI mB 221 i = pit (Lf P k tc th tf i 0) (nI 1) (nI 0) := by rw [cB.at (by omega), gI_s, upd_eq, pit_t (hLf0.mpr (Or.inl h63))]
            have hlI2 : ∀ j, j < i → gI mB 221 j = pit (Lf P k tc th tf j 25) (nI 1) (nI 0) := fun j hj => by rw [cB.at (by omega), gI_s, upd_ne (by omega)]; exact hl j hj
            have hfI : ∀ j, j < i → Lf P k tc th tf j 25 → ∀ c, c < 40 → gI mB 222 (j * 40 + c) = lkR P j n c := fun j hj a c hc => by rw [cB.at (by omega), gI_n (by decide)]; exact hf j hj a c hc
            refine go_c0 ?_
            refine go_iconst (v := nI 0) (by decide) dX4_weigh_89 ?_
            refine go_istore (i := 8) dX4_weigh_90 (nle rfl) (nle rfl) ?_
            exact keyh 0 (Nat.zero_le _) mB cI hcI hlI hlI2 hfI (fun h => absurd h (Nat.not_lt_zero n))
          · skip
            refine go_aload_n (q := 1) (i := 1) rfl rfl dX4_weigh_66 ?_
            refine go_iload (i := 7) rfl dX4_weigh_67 ?_
            refine go_callV okmX7_isLand lmX4_48 ⟨nle rfl, nle rfl⟩ hX.wp.o ⟨by decide, rfl⟩ (ev_isLand hX.wp (by omega)) npmX7_isLand rfl (nle rfl) ⟨nle rfl, nle rfl⟩ dX4_weigh_69 ?_
            rintro _ mz ⟨rfl, hz⟩
            subst mz
            rw [ldS_c ok hP (by omega)]
            refine go_c1 ?_
            refine go_if_eq (tgt := 79) dX4_weigh_72 (by decide) (fun h72 => ?_) (fun h72 => ?_)
            · skip
              refine go_iconst (v := nI 0) (by decide) dX4_weigh_79 ?_
              refine go_zast (j := i) hX.w10.i5 (by omega) (by first | decide | omega) rfl (by decide) dX4_weigh_80 ?_
              refine go_aload_n (q := 0) (i := 0) rfl rfl dX4_weigh_81 ?_
              refine go_getR lf4_24 rfl hX.w10.o hX.w10.r4 dX4_weigh_82 ?_
              refine go_aload_n (q := 1) (i := 1) rfl rfl dX4_weigh_85 ?_
              refine go_callV okmX1_begin lmX4_54 ⟨nle rfl, nle rfl⟩ hX.w10.w4.o ⟨by decide, rfl⟩ (ev_begin hX.w10.w4 hX.wp (by omega)) npmX1_begin rfl (nle rfl) ⟨nle rfl, nle rfl⟩ dX4_weigh_86 ?_
              rintro _ mB ⟨rfl, cB, eB⟩
              have cI : Ch (WgA pl) m mB := (ci.tr (show Ch (WgA pl) mi (sI mi 221 _) from Ch.I (by unfold WgA; omega))).tr (cB.mn (fun y hy => by unfold WgA; omega))
              have hcI : CR P (gw mB 215) (lkR P i 0) := by rw [eB, bgS_sI (by omega)]; exact bgS_cr ok hP
              have hlI : gI mB 221 i = pit (Lf P k tc th tf i 0) (nI 1) (nI 0) := by rw [cB.at (by omega), gI_s, upd_eq, pit_f (fun z => (hLf0.mp z).elim h63 (pz.mp h72))]
              have hlI2 : ∀ j, j < i → gI mB 221 j = pit (Lf P k tc th tf j 25) (nI 1) (nI 0) := fun j hj => by rw [cB.at (by omega), gI_s, upd_ne (by omega)]; exact hl j hj
              have hfI : ∀ j, j < i → Lf P k tc th tf j 25 → ∀ c, c < 40 → gI mB 222 (j * 40 + c) = lkR P j n c := fun j hj a c hc => by rw [cB.at (by omega), gI_n (by decide)]; exact hf j hj a c hc
              refine go_c0 ?_
              refine go_iconst (v := nI 0) (by decide) dX4_weigh_89 ?_
              refine go_istore (i := 8) dX4_weigh_90 (nle rfl) (nle rfl) ?_
              exact keyh 0 (Nat.zero_le _) mB cI hcI hlI hlI2 hfI (fun h => absurd h (Nat.not_lt_zero n))
            · skip
              refine go_iconst (v := nI 1) (by decide) dX4_weigh_75 ?_
              refine go_goto (tgt := 80) dX4_weigh_76 (by decide) ?_
              refine go_zast (j := i) hX.w10.i5 (by omega) (by first | decide | omega) rfl (by decide) dX4_weigh_80 ?_
              refine go_aload_n (q := 0) (i := 0) rfl rfl dX4_weigh_81 ?_
              refine go_getR lf4_24 rfl hX.w10.o hX.w10.r4 dX4_weigh_82 ?_
              refine go_aload_n (q := 1) (i := 1) rfl rfl dX4_weigh_85 ?_
              refine go_callV okmX1_begin lmX4_54 ⟨nle rfl, nle rfl⟩ hX.w10.w4.o ⟨by decide, rfl⟩ (ev_begin hX.w10.w4 hX.wp (by omega)) npmX1_begin rfl (nle rfl) ⟨nle rfl, nle rfl⟩ dX4_weigh_86 ?_
              rintro _ mB ⟨rfl, cB, eB⟩
              have cI : Ch (WgA pl) m mB := (ci.tr (show Ch (WgA pl) mi (sI mi 221 _) from Ch.I (by unfold WgA; omega))).tr (cB.mn (fun y hy => by unfold WgA; omega))
              have hcI : CR P (gw mB 215) (lkR P i 0) := by rw [eB, bgS_sI (by omega)]; exact bgS_cr ok hP
              have hlI : gI mB 221 i = pit (Lf P k tc th tf i 0) (nI 1) (nI 0) := by rw [cB.at (by omega), gI_s, upd_eq, pit_t (hLf0.mpr (Or.inr (pnz h72)))]
              have hlI2 : ∀ j, j < i → gI mB 221 j = pit (Lf P k tc th tf j 25) (nI 1) (nI 0) := fun j hj => by rw [cB.at (by omega), gI_s, upd_ne (by omega)]; exact hl j hj
              have hfI : ∀ j, j < i → Lf P k tc th tf j 25 → ∀ c, c < 40 → gI mB 222 (j * 40 + c) = lkR P j n c := fun j hj a c hc => by rw [cB.at (by omega), gI_n (by decide)]; exact hf j hj a c hc
              refine go_c0 ?_
              refine go_iconst (v := nI 0) (by decide) dX4_weigh_89 ?_
              refine go_istore (i := 8) dX4_weigh_90 (nle rfl) (nle rfl) ?_
              exact keyh 0 (Nat.zero_le _) mB cI hcI hlI hlI2 hfI (fun h => absurd h (Nat.not_lt_zero n))
      exact key 0 (Nat.zero_le _) m Ch.rf (fun j h => absurd h (Nat.not_lt_zero j)) (fun j h => absurd h (Nat.not_lt_zero j)) _
    · intro i hi ih La hLa1 hLa2 hLa3
      have hhi := (hTO.2 i (by omega)).2.2.1
      refine go_iload (i := 7) rfl dX4_weigh_10 ?_
      refine go_iload_n (q := 3) (i := 3) rfl rfl dX4_weigh_12 ?_
      refine gn_ge (by omega) (by omega) (tgt := 43) dX4_weigh_13 (by decide) (fun h13 => by exfalso; omega) (fun h13 => ?_)
      refine go_iload (i := 7) rfl dX4_weigh_16 ?_
      refine go_bipush (v := nI 20) (by decide) dX4_weigh_18 ?_
      refine gn_ge (by omega) (by omega) (tgt := 43) dX4_weigh_20 (by decide) (fun h20 => by exfalso; omega) (fun h20 => ?_)
      refine go_iload (i := 6) rfl dX4_weigh_23 ?_
      refine go_aload_n (q := 0) (i := 0) rfl rfl dX4_weigh_25 ?_
      refine go_getR lf4_15 rfl hX.w10.o hX.w10.r1 dX4_weigh_26 ?_
      refine go_iload (i := 7) rfl dX4_weigh_29 ?_
      refine go_iald (j := i) hX.w10.i1 (by omega) (by first | decide | omega) rfl dX4_weigh_31 ?_
      rw [(hT i (by omega)).2.1]
      refine go_max okMax (wg5 129 rfl rfl) ⟨nle rfl, nle rfl⟩ ⟨Nat.zero_le _, Nat.zero_le _⟩ dX4_weigh_32 ?_
      rw [mx_n (by omega) (by omega)]
      refine go_istore (i := 6) dX4_weigh_35 (nle rfl) (nle rfl) ?_
      refine gn_inc (i := 7) (a := i) (q := 1) rfl dX4_weigh_37 (nle rfl) rfl ?_
      refine go_goto (tgt := 10) dX4_weigh_40 (by decide) ?_
      refine ih _ (by split <;> omega) (by split <;> omega) (fun j hj => ?_)
      by_cases e : j = i
      · rw [e]; split <;> omega
      · have := hLa3 j (by omega)
        split <;> omega
  refine go_iconst (v := nI 0) (by decide) dX4_weigh_0 ?_
  refine go_istore (i := 5) dX4_weigh_1 (nle rfl) (nle rfl) ?_
  refine go_iload (i := 4) rfl dX4_weigh_3 ?_
  refine go_istore (i := 6) dX4_weigh_5 (nle rfl) (nle rfl) ?_
  refine go_iconst (v := nI 0) (by decide) dX4_weigh_7 ?_
  refine go_istore (i := 7) dX4_weigh_8 (nle rfl) (nle rfl) ?_
  exact key0 0 (Nat.zero_le _) n hn24 (Nat.le_refl n) (fun j h => absurd h (Nat.not_lt_zero j))
