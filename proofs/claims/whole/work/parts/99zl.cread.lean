theorem Wf1.e {n a : Nat} {R R' : Nat → Nat → Option Nat} (h : Wf1 n R a) (e : R' a = R a) : Wf1 n R' a := by unfold Wf1; rw [e]; exact h
theorem Wf11.up {n : Nat} {R : Nat → Nat → Option Nat} {r : Nat → Option Nat} (h : Wf11 n R) (hr : ∀ k, k < 12 → r k = R 0 k) : Wf11 n (va_up R 0 r) := by
  have e : ∀ x, x ≠ 0 → va_up R 0 r x = R x := fun x q => up_n q
  have e0 : ∀ k, k < 12 → va_up R 0 r 0 k = R 0 k := fun k hk => by rw [up_s]; exact hr k hk
  refine ⟨h.o, by rw [e0 _ (by decide)]; exact h.r0, by unfold Wf9; rw [e _ (by decide)]; exact h.w0, by rw [e0 _ (by decide)]; exact h.r1, by unfold Wf10; rw [e _ (by decide)]; exact h.w1, by rw [e0 _ (by decide)]; exact h.r2, by unfold Wf2; rw [e _ (by decide)]; exact h.w2, by rw [e0 _ (by decide)]; exact h.r3, by unfold Wf0; rw [e _ (by decide)]; exact h.w3, by rw [e0 _ (by decide)]; exact h.r4, by unfold Wf8; rw [e _ (by decide)]; exact h.w4, by rw [e0 _ (by decide)]; exact h.r5, h.w5.e (e _ (by decide)), by rw [e0 _ (by decide)]; exact h.r6, h.w6.e (e _ (by decide)), by rw [e0 _ (by decide)]; exact h.r7, ?_, by rw [e0 _ (by decide)]; exact h.r8, h.i8, by rw [e0 _ (by decide)]; exact h.r9, h.i9, by rw [e0 _ (by decide)]; exact h.r10, ?_, by rw [e0 _ (by decide)]; exact h.r11, by unfold Wf3; rw [e _ (by decide)]; exact h.w11, fun j hj => ⟨by rw [e _ (by decide)]; exact (h.slots j hj).1, (h.slots j hj).2.e (e _ (by omega))⟩, ?_, ?_⟩
  · obtain ⟨a, b, c, d⟩ := h.w7
    exact ⟨a, by rw [e _ (by decide)]; exact b, c, fun j hj => ⟨by rw [e _ (by decide)]; exact (d j hj).1, (d j hj).2.e (e _ (by omega))⟩⟩
  · have := h.w10
    unfold Wf4 Wf1 at this ⊢
    rw [e 211 (by decide), e (211 + 4) (by decide)]
    exact this
  · have := h.p1
    unfold Wf7 Wf5 at this ⊢
    rw [e 226 (by decide), e (226 + 9) (by decide)]
    exact this
  · have := h.p2
    unfold Wf7 Wf5 at this ⊢
    rw [e 241 (by decide), e (241 + 9) (by decide)]
    exact this
theorem Wf12.e {n : Nat} {R R' : Nat → Nat → Option Nat} (h : Wf12 n R) (e : R' 274 = R 274) : Wf12 n R' := by unfold Wf12; rw [e]; exact h
/-- the class's two plans change places -/
theorem CX.swap {n pl dr : Nat} {R : Nat → Nat → Option Nat} (h : CX n R pl dr) : CX n (va_up R 0 (va_up (va_up (R 0) 12 (some dr)) 13 (some pl))) dr pl := by
  refine ⟨h.1.up (fun k hk => by rw [up_n (by omega), up_n (by omega)]), ?_, ?_, ?_⟩
  · rw [up_s, up_n (by decide), up_s]
  · rw [up_s, up_s]
  · have := h.2.2.2
    omega
set_option maxRecDepth 100000 in
set_option maxHeartbeats 8000000 in
theorem ev_beginDraft {m : Me} {pl dr : Nat} {P : Pl} (hX : CX m.1 (gR m) pl dr) (hx : Wf12 m.1 (gR m)) (hP : PlC m dr P) (ok : PlOk P) : Ev mX11_beginDraft [.ref 0] m (fun o m' => o = none ∧ CX m'.1 (gR m') dr pl ∧ Wf12 m'.1 (gR m') ∧ PlC m' dr P ∧ CR P (gw m' 15) (bgM P) ∧ gI m' 27 1 = gI m 27 1 ∧ gI m' 27 2 = nI 0 ∧ gI m' 211 3 = nI 0 ∧ (∀ j, j < 3 → gI m' 210 j = nI 0) ∧ m'.1 = m.1 ∧ (∀ x, x ≠ 27 → x ≠ 210 → x ≠ 211 → (x < 15 ∨ 20 < x) → gI m' x = gI m x) ∧ gJ m' = gJ m) := by
  refine ⟨plmX11_beginDraft, nle rfl, ?_⟩
  have hpd0 := hX.pd
  have key : ∀ i, i ≤ 3 → ∀ (m6 : Me), (∀ j, j < i → gI m6 210 j = nI 0) → CX m6.1 (gR m6) dr pl → Wf12 m6.1 (gR m6) → PlC m6 dr P → CR P (gw m6 15) (bgM P) → gI m6 27 1 = gI m 27 1 → gI m6 27 2 = nI 0 → gI m6 211 3 = nI 0 → m6.1 = m.1 → (∀ x, x ≠ 27 → x ≠ 210 → x ≠ 211 → (x < 15 ∨ 20 < x) → gI m6 x = gI m x) → gJ m6 = gJ m → Go mX11_beginDraft (fun o m' => o = none ∧ CX m'.1 (gR m') dr pl ∧ Wf12 m'.1 (gR m') ∧ PlC m' dr P ∧ CR P (gw m' 15) (bgM P) ∧ gI m' 27 1 = gI m 27 1 ∧ gI m' 27 2 = nI 0 ∧ gI m' 211 3 = nI 0 ∧ (∀ j, j < 3 → gI m' 210 j = nI 0) ∧ m'.1 = m.1 ∧ (∀ x, x ≠ 27 → x ≠ 210 → x ≠ 211 → (x < 15 ∨ 20 < x) → gI m' x = gI m x) ∧ gJ m' = gJ m) 46 [some (.ref 0), some (.ref pl), some (.int (nI i))] [] m6 0 0 := by
    refine loop_up 3 ?_ ?_
    · intro m6 hz hX hx hP hg h1 h2 h3 hn hk hj
      refine go_iload_n (q := 2) (i := 2) rfl rfl dX11_beginDraft_46 ?_
      refine go_iconst (v := nI 3) (by decide) dX11_beginDraft_47 ?_
      refine gn_ge (by omega) (by omega) (tgt := 64) dX11_beginDraft_48 (by decide) (fun h48 => ?_) (fun h48 => by exfalso; omega)
      refine go_vret rfl ⟨Nat.zero_le _, Nat.zero_le _⟩ dX11_beginDraft_64 ?_
      exact ⟨rfl, hX, hx, hP, hg, h1, h2, h3, hz, hn, hk, hj⟩
    · intro i hi ih m6 hz hX hx hP hg h1 h2 h3 hn hk hj
      refine go_iload_n (q := 2) (i := 2) rfl rfl dX11_beginDraft_46 ?_
      refine go_iconst (v := nI 3) (by decide) dX11_beginDraft_47 ?_
      refine gn_ge (by omega) (by omega) (tgt := 64) dX11_beginDraft_48 (by decide) (fun h48 => by exfalso; omega) (fun h48 => ?_)
      refine go_aload_n (q := 0) (i := 0) rfl rfl dX11_beginDraft_51 ?_
      refine go_getR lf11_65 rfl hX.o hX.r9 dX11_beginDraft_52 ?_
      refine go_iload_n (q := 2) (i := 2) rfl rfl dX11_beginDraft_55 ?_
      refine go_iconst (v := nI 0) (by decide) dX11_beginDraft_56 ?_
      refine go_zast (j := i) hX.i9 (by omega) (by first | decide | omega) rfl (by decide) dX11_beginDraft_57 ?_
      refine gn_inc (i := 2) (a := i) (q := 1) rfl dX11_beginDraft_58 (nle rfl) rfl ?_
      refine go_goto (tgt := 46) dX11_beginDraft_61 (by decide) ?_
      refine ih _ (fun j hji => ?_) hX hx (hP.keep (fun x a b _ => gI_n (by omega))) ?_ (by rw [gI_n (by decide)]; exact h1) (by rw [gI_n (by decide)]; exact h2) (by rw [gI_n (by decide)]; exact h3) hn (fun x a b c d => by rw [gI_n b]; exact hk x a b c d) hj
      · rw [gI_s, upd_c]
        by_cases e : j = i
        · rw [if_pos e]
        · rw [if_neg e]; exact hz j (by omega)
      · rw [show gw (sI m6 210 (upd (gI m6 210) i (nI 0))) 15 = gw m6 15 by unfold gw; rw [gI_n (by decide), gI_n (by decide), gI_n (by decide), gI_n (by decide), gI_n (by decide), gI_n (by decide)]]
        exact hg
  refine go_aload_n (q := 0) (i := 0) rfl rfl dX11_beginDraft_0 ?_
  refine go_getR lf11_86 rfl hX.o hX.rp dX11_beginDraft_1 ?_
  refine go_astore_n (q := 1) (i := 1) rfl dX11_beginDraft_4 (nle rfl) (nle rfl) ?_
  refine go_aload_n (q := 0) (i := 0) rfl rfl dX11_beginDraft_5 ?_
  refine go_aload_n (q := 0) (i := 0) rfl rfl dX11_beginDraft_6 ?_
  refine go_getR lf11_90 rfl hX.o hX.rd dX11_beginDraft_7 ?_
  refine go_putR lf11_86 rfl (Or.inl rfl) hX.o dX11_beginDraft_10 ?_
  refine go_aload_n (q := 0) (i := 0) rfl rfl dX11_beginDraft_13 ?_
  refine go_aload_n (q := 1) (i := 1) rfl rfl dX11_beginDraft_14 ?_
  refine go_putR lf11_90 rfl (Or.inl rfl) hX.o dX11_beginDraft_15 ?_
  generalize hmE : sR (sR m 0 (va_up (gR m 0) 12 (some dr))) 0 (va_up (gR (sR m 0 (va_up (gR m 0) 12 (some dr))) 0) 13 (some pl)) = m2
  have hn2 : m2.1 = m.1 := by rw [← hmE]; rfl
  have hI2 : gI m2 = gI m := by rw [← hmE]; rfl
  have hJ2 : gJ m2 = gJ m := by rw [← hmE]; rfl
  have hR2 : gR m2 = va_up (gR m) 0 (va_up (va_up (gR m 0) 12 (some dr)) 13 (some pl)) := by
    rw [← hmE]
    funext x
    by_cases q : x = 0
    · subst q
      rw [gR_s, gR_s, up_s]
    · rw [gR_n q, gR_n q, up_n q]
  have hX : CX m2.1 (gR m2) dr pl := by rw [hn2, hR2]; exact hX.swap
  have hx : Wf12 m2.1 (gR m2) := by rw [hn2, hR2]; exact hx.e (up_n (by decide))
  have hP : PlC m2 dr P := hP.keep (fun x _ _ _ => by rw [hI2])
  clear hmE
  refine go_aload_n (q := 0) (i := 0) rfl rfl dX11_beginDraft_18 ?_
  refine go_getR lf11_47 rfl hX.o hX.r5 dX11_beginDraft_19 ?_
  refine go_aload_n (q := 0) (i := 0) rfl rfl dX11_beginDraft_22 ?_
  refine go_getR lf11_86 rfl hX.o hX.rp dX11_beginDraft_23 ?_
  refine go_callV okmX1_begin lmX11_93 ⟨nle rfl, nle rfl⟩ hX.w5.o ⟨by decide, rfl⟩ (ev_begin hX.w5 hX.wp (by omega)) npmX1_begin rfl (nle rfl) ⟨nle rfl, nle rfl⟩ dX11_beginDraft_26 ?_
  rintro _ m3 ⟨rfl, c3, g3⟩
  have hI3 : ∀ x, (x < 15 ∨ 20 < x) → gI m3 x = gI m x := fun x q => by rw [c3.at (by omega), hI2]
  have hg : CR P (gw m3 15) (bgM P) := by rw [g3]; exact bgS_cr ok hP
  have hP : PlC m3 dr P := hP.keep (fun x a b _ => c3.at (by omega))
  have hX : CX m3.1 (gR m3) dr pl := CX.to c3 hX
  have hx : Wf12 m3.1 (gR m3) := Ch.to (F := Wf12) c3 hx
  refine go_c0 ?_
  refine go_aload_n (q := 0) (i := 0) rfl rfl dX11_beginDraft_29 ?_
  refine go_getR lf11_57 rfl hX.o hX.r7 dX11_beginDraft_30 ?_
  refine go_callV okmX6_empty lmX11_295 ⟨nle rfl, nle rfl⟩ hX.w7.o ⟨by decide, rfl⟩ (ev_empty hX.w7) npmX6_empty rfl (nle rfl) ⟨nle rfl, nle rfl⟩ dX11_beginDraft_33 ?_
  rintro _ m4 ⟨rfl, he4⟩
  have hX : CX m4.1 (gR m4) dr pl := by rw [he4]; exact hX
  have hx : Wf12 m4.1 (gR m4) := by rw [he4]; exact hx
  refine go_c0 ?_
  refine go_aload_n (q := 0) (i := 0) rfl rfl dX11_beginDraft_36 ?_
  refine go_getR lf11_72 rfl hX.o hX.r10 dX11_beginDraft_37 ?_
  refine go_iconst (v := nI 0) (by decide) dX11_beginDraft_40 ?_
  refine go_putI lf11_278 rfl (Or.inl rfl) hX.w10.o dX11_beginDraft_41 ?_
  refine go_iconst (v := nI 0) (by decide) dX11_beginDraft_44 ?_
  refine go_istore_n (q := 2) (i := 2) rfl dX11_beginDraft_45 (nle rfl) (nle rfl) ?_
  refine key 0 (Nat.zero_le _) _ (fun j hj => absurd hj (Nat.not_lt_zero j)) hX hx (hP.keep (fun x a b _ => by rw [gI_n (by omega), he4, gI_n (by omega)])) ?_ ?_ ?_ (by rw [gI_s, upd_same]) (by rw [he4]; exact c3.1.trans hn2) (fun x a b c d => by rw [gI_n c, he4, gI_n a]; exact hI3 x d) (by rw [he4]; exact c3.2.1.trans hJ2)
  · rw [he4, show gw (sI (sI m3 27 (upd (gI m3 27) 2 (nI 0))) 211 (upd (gI (sI m3 27 (upd (gI m3 27) 2 (nI 0))) 211) 3 (nI 0))) 15 = gw m3 15 by unfold gw; rw [gI_n (by decide), gI_n (by decide), gI_n (by decide), gI_n (by decide), gI_n (by decide), gI_n (by decide), gI_n (by decide), gI_n (by decide), gI_n (by decide), gI_n (by decide), gI_n (by decide), gI_n (by decide)]]
    exact hg
  · rw [gI_n (by decide), he4, gI_s, upd_ne (by decide), hI3 27 (by decide)]
  · rw [gI_n (by decide), he4, gI_s, upd_same]
