/-- the thickest place, told; its fog -/
def kS (r : Nat → Int32) (c : Nat) (s : Int32 × Int32) : Int32 × Int32 := if r c ≤ s.2 then s else (nI (10 * (c / 8) + c % 8), r c)
def kC (r : Nat → Int32) (c : Nat) (s : Int32 × Int32) : Int32 × Int32 := if r c ≤ s.2 then s else (nI c, r c)
def kT (a b : Int32 × Int32) : Prop := (a = (-1, -1) ∧ b = (-2, -2)) ∨ ∃ c n, c < 40 ∧ n < 2 ^ 20 ∧ a = (nI c, nI n) ∧ b = (nI (10 * (c / 8) + c % 8), nI n)
theorem kS_t {r : Nat → Int32} {c : Nat} {s : Int32 × Int32} (h : ¬ r c ≤ s.2) : kS r c s = (nI (10 * (c / 8) + c % 8), r c) := if_neg h
theorem kS_f {r : Nat → Int32} {c : Nat} {s : Int32 × Int32} (h : r c ≤ s.2) : kS r c s = s := if_pos h
theorem kT_s {r : Nat → Int32} {c n : Nat} {a b : Int32 × Int32} (hc : c < 40) (hn : n < 2 ^ 20) (e : r c = nI n) (h : kT a b) : kT (kC r c a) (kS r c b) := by
  unfold kC kS
  rcases h with ⟨rfl, rfl⟩ | ⟨d, k, hd, hk, rfl, rfl⟩
  · rw [e]
    rw [if_neg (show ¬ nI n ≤ (-1 : Int32) by rw [Int32.le_iff_toInt_le, nI_toInt (by omega), show (-1 : Int32).toInt = -1 from by decide]; omega), if_neg (show ¬ nI n ≤ (-2 : Int32) by rw [Int32.le_iff_toInt_le, nI_toInt (by omega), show (-2 : Int32).toInt = -2 from by decide]; omega)]
    exact Or.inr ⟨c, n, hc, hn, rfl, rfl⟩
  · rw [e]
    by_cases q : nI n ≤ nI k
    · rw [if_pos q, if_pos q]; exact Or.inr ⟨d, k, hd, hk, rfl, rfl⟩
    · rw [if_neg q, if_neg q]; exact Or.inr ⟨c, n, hc, hn, rfl, rfl⟩
theorem kT_x {P : Pl} {r : Nat → Int32} {y : Nat} {a b : Int32 × Int32} (hr : ∀ c, c < 40 → ∃ n, n ≤ 99 ∧ r c = nI n) (hy : y < 5) (h : kT a b) : ∀ x, x ≤ 8 → kT (foX (kC r) y x a) (foX (kS r) y x b)
  | 0, _ => h
  | x + 1, q => by
    obtain ⟨n, h1, h2⟩ := hr (8 * y + x) (by omega)
    exact kT_s (by omega) (by omega) h2 (kT_x (P := P) hr hy h x (by omega))
theorem kT_y {P : Pl} {r : Nat → Int32} (ok : PlOk P) (hr : ∀ c, c < 40 → ∃ n, n ≤ 99 ∧ r c = nI n) : ∀ y, y ≤ 5 → kT (foY (kC r) P.wd y (-1, -1)) (foY (kS r) P.wd y (-2, -2))
  | 0, _ => Or.inl ⟨rfl, rfl⟩
  | y + 1, q => kT_x (P := P) hr (by omega) (kT_y ok hr y (by omega)) P.wd ok.1
theorem tk_eq {P : Pl} {r F W : Nat → Int32} (ok : PlOk P) (h1 : ∀ c, c < 40 → F c = r c) (h2 : ∀ c, c < 40 → (W c = -1 ↔ ¬ ld P c)) : tkS F W 40 = foY (kC r) P.wd P.rw (-1, -1) := by
  have a : ∀ n, tkS F W n = fo (fun c s => if W c = -1 then s else kC F c s) n (-1, -1) := by
    intro n
    induction n with
    | zero => rfl
    | succ n ih =>
      rw [tkS, fo, ← ih]; rfl
  rw [a 40]
  refine fo_nest ok.1 ok.2.1 (fun c hc l => ?_) (fun c hc l b => if_pos ((h2 c hc).mpr l))
  funext b
  rw [if_neg (fun q => (h2 c hc).mp q l)]
  unfold kC
  rw [h1 c hc]
theorem CR.wn {P : Pl} {M : Nat} {c r : Nat → Int32} (ok : PlOk P) (hr : RoOk P M r) (h : CR P c r) {k : Nat} (hk : k < 40) : c (40 + k) = -1 ↔ ¬ ld P k := by
  refine ⟨fun q l => ?_, fun l => h.o hk l⟩
  rw [h.w hk l] at q
  rcases hr.2.1 k hk l with e | ⟨j, hj, e⟩
  · rw [e] at q; exact absurd q (by decide)
  · rw [e] at q; have := ok.2.2.1; exact i1m j (by omega) q.symm
theorem hrN_ok {P : Pl} (ok : PlOk P) {r : Nat → Int32} {se la : Int32} {M : Nat} (hr : RoOk P M r) : ∀ n, M + n < 2 ^ 20 → RoOk P (M + n) (hrN P la se n r)
  | 0, _ => hr
  | n + 1, q => hr_ok (M := M + n) ok (by omega) (hrN_ok ok hr n (by omega))
noncomputable def thkS (P : Pl) (r : Nat → Int32) (n w : Int32) : Int32 := if inS n (nI 0) (nI 72) = nI 0 then -1 else if inS w (nI 0) (nI 1) = nI 0 then -1 else if w = nI 0 then (foY (kS (hrN P (-1) P.se n.toNatClampNeg r)) P.wd P.rw (-2, -2)).2 else (foY (kS (hrN P (-1) P.se n.toNatClampNeg r)) P.wd P.rw (-2, -2)).1
theorem told_c {c : Nat} (hc : c < 40) : toldS (nI c) = nI (10 * (c / 8) + c % 8) := by
  unfold toldS
  have : ∀ c : Fin 40, nI 10 * (nI c.val / nI 8) + (nI c.val - nI c.val / nI 8 * nI 8) = nI (10 * (c.val / 8) + c.val % 8) := by decide
  exact this ⟨c, hc⟩
theorem kC_x {r : Nat → Int32} {y : Nat} {a : Int32 × Int32} (hr : ∀ c, c < 40 → ∃ n, n ≤ 99 ∧ r c = nI n) (h : a = (-1, -1) ∨ ∃ c, c < 40 ∧ a = (nI c, r c)) (hy : y < 5) : ∀ x, x ≤ 8 → foX (kC r) y x a = (-1, -1) ∨ ∃ c, c < 40 ∧ foX (kC r) y x a = (nI c, r c)
  | 0, _ => h
  | x + 1, q => by
    have := kC_x hr h hy x (by omega)
    show (if r (8 * y + x) ≤ (foX (kC r) y x a).2 then foX (kC r) y x a else (nI (8 * y + x), r (8 * y + x))) = _ ∨ ∃ c, c < 40 ∧ (if r (8 * y + x) ≤ (foX (kC r) y x a).2 then foX (kC r) y x a else (nI (8 * y + x), r (8 * y + x))) = _
    by_cases z : r (8 * y + x) ≤ (foX (kC r) y x a).2
    · rw [if_pos z]; exact this
    · rw [if_neg z]; exact Or.inr ⟨_, by omega, rfl⟩
theorem kC_y {r : Nat → Int32} {wd : Nat} (hw : wd ≤ 8) (hr : ∀ c, c < 40 → ∃ n, n ≤ 99 ∧ r c = nI n) : ∀ y, y ≤ 5 → foY (kC r) wd y (-1, -1) = (-1, -1) ∨ ∃ c, c < 40 ∧ foY (kC r) wd y (-1, -1) = (nI c, r c)
  | 0, _ => Or.inl rfl
  | y + 1, q => kC_x hr (kC_y hw hr y (by omega)) (by omega) wd hw
theorem kC_v {P : Pl} {r : Nat → Int32} {c : Nat} {v : Int32} (ok : PlOk P) (hc : c < 40) (h : foY (kC r) P.wd P.rw (-1, -1) = (nI c, v)) (hr : ∀ c, c < 40 → ∃ n, n ≤ 99 ∧ r c = nI n) : r c = v := by
  rcases kC_y ok.1 hr P.rw ok.2.1 with e | ⟨d, hd, e⟩
  · rw [e] at h
    have := congrArg Prod.fst h
    exact absurd this (i1m c (by omega))
  · rw [e] at h
    have h1 := congrArg Prod.fst h
    have h2 := congrArg Prod.snd h
    have h1 : nI d = nI c := h1
    have : d = c := by
      have := congrArg Int32.toInt h1
      rw [nI_toInt (by omega), nI_toInt (by omega)] at this; omega
    subst this; exact h2
set_option maxRecDepth 100000 in
set_option maxHeartbeats 8000000 in
theorem ev_thick {m : Me} {pl dr M : Nat} {P : Pl} {r : Nat → Int32} (hX : CX m.1 (gR m) pl dr) (hP : PlC m pl P) (ok : PlOk P) (hM : M < 2 ^ 18) (hr : RoOk P M r) (hc : CR P (gw m 15) r) {n w : Int32} : Ev mX11_thickest [.ref 0, .int n, .int w] m (fun o m' => o = some (.int (thkS P r n w)) ∧ Ch (LkS pl) m m') := by
  refine ⟨plmX11_thickest, nle rfl, ?_⟩
  have hw8 := ok.1
  have hr5 := ok.2.1
  have hpd := hX.pd
  rcases in_c n (N := 72) (by decide) with hn | ⟨j, hj, rfl, hn⟩
  · skip
    refine go_iload_n (q := 1) (i := 1) rfl rfl dX11_thickest_0 ?_
    refine go_callS okmX11_isAhead lmX11_219 ⟨nle rfl, nle rfl⟩ (ev_isAhead) npmX11_isAhead rfl (nle rfl) ⟨nle rfl, nle rfl⟩ dX11_thickest_1 ?_
    rintro _ mz ⟨rfl, hz⟩
    subst mz
    rw [ah_in, hn]
    refine go_c1 ?_
    refine gz_eq (by omega) (tgt := 16) dX11_thickest_4 (by decide) (fun h4 => ?_) (fun h4 => by exfalso; omega)
    refine go_iconst (v := -1) (by decide) dX11_thickest_16 ?_
    refine go_iret rfl ⟨Nat.zero_le _, Nat.zero_le _⟩ dX11_thickest_17 ?_
    refine ⟨?_, Ch.rf⟩
    simp only [thkS, hn, i10, reduceIte]
  · skip
    rcases in_c w (N := 1) (by decide) with hw | ⟨k, hk, rfl, hw⟩
    · skip
      refine go_iload_n (q := 1) (i := 1) rfl rfl dX11_thickest_0 ?_
      refine go_callS okmX11_isAhead lmX11_219 ⟨nle rfl, nle rfl⟩ (ev_isAhead) npmX11_isAhead rfl (nle rfl) ⟨nle rfl, nle rfl⟩ dX11_thickest_1 ?_
      rintro _ mz ⟨rfl, hz⟩
      subst mz
      rw [ah_in, hn]
      refine go_c1 ?_
      refine gz_eq (by omega) (tgt := 16) dX11_thickest_4 (by decide) (fun h4 => by exfalso; omega) (fun h4 => ?_)
      refine go_iload_n (q := 2) (i := 2) rfl rfl dX11_thickest_7 ?_
      refine go_if_lt (tgt := 16) dX11_thickest_8 (by decide) (fun h8 => ?_) (fun h8 => ?_)
      · skip
        refine go_iconst (v := -1) (by decide) dX11_thickest_16 ?_
        refine go_iret rfl ⟨Nat.zero_le _, Nat.zero_le _⟩ dX11_thickest_17 ?_
        refine ⟨?_, Ch.rf⟩
        simp only [thkS, hn, hw, i10, reduceIte]
      · skip
        refine go_iload_n (q := 2) (i := 2) rfl rfl dX11_thickest_11 ?_
        refine go_iconst (v := nI 1) (by decide) dX11_thickest_12 ?_
        refine go_icmp_le (tgt := 18) dX11_thickest_13 (by decide) (fun h13 => by exfalso; exact (in_n hw).elim h8 (fun q => absurd q (Int32.not_lt.mpr h13))) (fun h13 => ?_)
        refine go_iconst (v := -1) (by decide) dX11_thickest_16 ?_
        refine go_iret rfl ⟨Nat.zero_le _, Nat.zero_le _⟩ dX11_thickest_17 ?_
        refine ⟨?_, Ch.rf⟩
        simp only [thkS, hn, hw, i10, reduceIte]
    · skip
      rcases (show k = 0 ∨ k = 1 by omega) with rfl | rfl
      · skip
        have hkt := kT_y (r := hrN P (-1) P.se j r) ok (hrN_ok ok hr j (by omega)).1.1 P.rw ok.2.1
        generalize hea : foY (kC (hrN P (-1) P.se j r)) P.wd P.rw (-1, -1) = sa at hkt
        generalize heb : foY (kS (hrN P (-1) P.se j r)) P.wd P.rw (-2, -2) = sb at hkt
        rcases hkt with ⟨rfl, rfl⟩ | ⟨c, v, hc4, hv, rfl, rfl⟩
        · skip
          have ea := hea
          have eb := heb
          refine go_iload_n (q := 1) (i := 1) rfl rfl dX11_thickest_0 ?_
          refine go_callS okmX11_isAhead lmX11_219 ⟨nle rfl, nle rfl⟩ (ev_isAhead) npmX11_isAhead rfl (nle rfl) ⟨nle rfl, nle rfl⟩ dX11_thickest_1 ?_
          rintro _ mz ⟨rfl, hz⟩
          subst mz
          rw [ah_in, hn]
          refine go_c1 ?_
          refine gz_eq (by omega) (tgt := 16) dX11_thickest_4 (by decide) (fun h4 => by exfalso; omega) (fun h4 => ?_)
          refine go_iload_n (q := 2) (i := 2) rfl rfl dX11_thickest_7 ?_
          refine gz_lt (by omega) (tgt := 16) dX11_thickest_8 (by decide) (fun h8 => by exfalso; omega) (fun h8 => ?_)
          refine go_iload_n (q := 2) (i := 2) rfl rfl dX11_thickest_11 ?_
          refine go_iconst (v := nI 1) (by decide) dX11_thickest_12 ?_
          refine gn_le (by omega) (by omega) (tgt := 18) dX11_thickest_13 (by decide) (fun h13 => ?_) (fun h13 => by exfalso; omega)
          refine go_aload_n (q := 0) (i := 0) rfl rfl dX11_thickest_18 ?_
          refine go_getR lf11_51 rfl hX.o hX.r6 dX11_thickest_19 ?_
          refine go_aload_n (q := 0) (i := 0) rfl rfl dX11_thickest_22 ?_
          refine go_getR lf11_47 rfl hX.o hX.r5 dX11_thickest_23 ?_
          refine go_callV okmX1_copyFrom lmX11_205 ⟨nle rfl, nle rfl⟩ hX.w6.o ⟨by decide, rfl⟩ (ev_copyFrom hX.w6 hX.w5 (by omega)) npmX1_copyFrom rfl (nle rfl) ⟨nle rfl, nle rfl⟩ dX11_thickest_26 ?_
          rintro _ m1 ⟨rfl, cA, eA⟩
          have c1 : Ch (LkS pl) m m1 := cA.mn (fun x hx => by unfold LkS; omega)
          have hP := hP.lk hX c1
          have hX := CX.to c1 hX
          have hc1 : CR P (gw m1 21) r := by rw [eA]; exact hc
          refine go_c0 ?_
          refine go_aload_n (q := 0) (i := 0) rfl rfl dX11_thickest_29 ?_
          refine go_iload_n (q := 1) (i := 1) rfl rfl dX11_thickest_30 ?_
          refine go_aload_n (q := 0) (i := 0) rfl rfl dX11_thickest_31 ?_
          refine go_getR lf11_86 rfl hX.o hX.rp dX11_thickest_32 ?_
          refine go_getI lf11_208 rfl hX.wp.o dX11_thickest_35 ?_
          rw [hP.se]
          refine go_callV okmX11_passLater lmX11_211 ⟨nle rfl, nle rfl⟩ hX.o ⟨by decide, rfl⟩ (ev_passLater (M := M) hX hP ok (by omega) hM hr hc1) npmX11_passLater rfl (nle rfl) ⟨nle rfl, nle rfl⟩ dX11_thickest_38 ?_
          rintro _ m2 ⟨rfl, cB, hc2⟩
          have c2 := c1.tr cB
          have hP := hP.lk hX cB
          have hX := CX.to cB hX
          refine go_c0 ?_
          refine go_aload_n (q := 0) (i := 0) rfl rfl dX11_thickest_41 ?_
          refine go_getR lf11_51 rfl hX.o hX.r6 dX11_thickest_42 ?_
          refine go_callV okmX1_thickestCell lmX11_229 ⟨nle rfl, nle rfl⟩ hX.w6.o ⟨by decide, rfl⟩ (ev_thickest hX.w6) npmX1_thickestCell rfl (nle rfl) ⟨nle rfl, nle rfl⟩ dX11_thickest_45 ?_
          rintro _ mz ⟨rfl, hz⟩
          subst mz
          rw [tk_eq (r := hrN P (-1) P.se j r) ok (fun c hq => (gw_f hq).trans (hc2.f hq)) (fun c hq => by rw [show gI m2 (21 + 2) c = _ from gw_w hq]; exact hc2.wn ok (hrN_ok ok hr j (by omega)) hq), ea]
          refine go_c1 ?_
          refine go_istore_n (q := 3) (i := 3) rfl dX11_thickest_48 (nle rfl) (nle rfl) ?_
          refine go_iload_n (q := 3) (i := 3) rfl rfl dX11_thickest_49 ?_
          refine go_if_lt (tgt := 59) dX11_thickest_50 (by decide) (fun h50 => ?_) (fun h50 => by exfalso; exact h50 (by decide))
          refine go_bipush (v := -2) (by decide) dX11_thickest_59 ?_
          refine go_iret rfl ⟨Nat.zero_le _, Nat.zero_le _⟩ dX11_thickest_61 ?_
          refine ⟨?_, c2⟩
          simp only [thkS, hn, hw, eb, i10, reduceIte, i20, i21, nI_clamp (show j < 2 ^ 31 by omega)]
        · skip
          have ea := hea
          have eb := heb
          have ec := kC_v ok hc4 hea (hrN_ok ok hr j (by omega)).1.1
          refine go_iload_n (q := 1) (i := 1) rfl rfl dX11_thickest_0 ?_
          refine go_callS okmX11_isAhead lmX11_219 ⟨nle rfl, nle rfl⟩ (ev_isAhead) npmX11_isAhead rfl (nle rfl) ⟨nle rfl, nle rfl⟩ dX11_thickest_1 ?_
          rintro _ mz ⟨rfl, hz⟩
          subst mz
          rw [ah_in, hn]
          refine go_c1 ?_
          refine gz_eq (by omega) (tgt := 16) dX11_thickest_4 (by decide) (fun h4 => by exfalso; omega) (fun h4 => ?_)
          refine go_iload_n (q := 2) (i := 2) rfl rfl dX11_thickest_7 ?_
          refine gz_lt (by omega) (tgt := 16) dX11_thickest_8 (by decide) (fun h8 => by exfalso; omega) (fun h8 => ?_)
          refine go_iload_n (q := 2) (i := 2) rfl rfl dX11_thickest_11 ?_
          refine go_iconst (v := nI 1) (by decide) dX11_thickest_12 ?_
          refine gn_le (by omega) (by omega) (tgt := 18) dX11_thickest_13 (by decide) (fun h13 => ?_) (fun h13 => by exfalso; omega)
          refine go_aload_n (q := 0) (i := 0) rfl rfl dX11_thickest_18 ?_
          refine go_getR lf11_51 rfl hX.o hX.r6 dX11_thickest_19 ?_
          refine go_aload_n (q := 0) (i := 0) rfl rfl dX11_thickest_22 ?_
          refine go_getR lf11_47 rfl hX.o hX.r5 dX11_thickest_23 ?_
          refine go_callV okmX1_copyFrom lmX11_205 ⟨nle rfl, nle rfl⟩ hX.w6.o ⟨by decide, rfl⟩ (ev_copyFrom hX.w6 hX.w5 (by omega)) npmX1_copyFrom rfl (nle rfl) ⟨nle rfl, nle rfl⟩ dX11_thickest_26 ?_
          rintro _ m1 ⟨rfl, cA, eA⟩
          have c1 : Ch (LkS pl) m m1 := cA.mn (fun x hx => by unfold LkS; omega)
          have hP := hP.lk hX c1
          have hX := CX.to c1 hX
          have hc1 : CR P (gw m1 21) r := by rw [eA]; exact hc
          refine go_c0 ?_
          refine go_aload_n (q := 0) (i := 0) rfl rfl dX11_thickest_29 ?_
          refine go_iload_n (q := 1) (i := 1) rfl rfl dX11_thickest_30 ?_
          refine go_aload_n (q := 0) (i := 0) rfl rfl dX11_thickest_31 ?_
          refine go_getR lf11_86 rfl hX.o hX.rp dX11_thickest_32 ?_
          refine go_getI lf11_208 rfl hX.wp.o dX11_thickest_35 ?_
          rw [hP.se]
          refine go_callV okmX11_passLater lmX11_211 ⟨nle rfl, nle rfl⟩ hX.o ⟨by decide, rfl⟩ (ev_passLater (M := M) hX hP ok (by omega) hM hr hc1) npmX11_passLater rfl (nle rfl) ⟨nle rfl, nle rfl⟩ dX11_thickest_38 ?_
          rintro _ m2 ⟨rfl, cB, hc2⟩
          have c2 := c1.tr cB
          have hP := hP.lk hX cB
          have hX := CX.to cB hX
          refine go_c0 ?_
          refine go_aload_n (q := 0) (i := 0) rfl rfl dX11_thickest_41 ?_
          refine go_getR lf11_51 rfl hX.o hX.r6 dX11_thickest_42 ?_
          refine go_callV okmX1_thickestCell lmX11_229 ⟨nle rfl, nle rfl⟩ hX.w6.o ⟨by decide, rfl⟩ (ev_thickest hX.w6) npmX1_thickestCell rfl (nle rfl) ⟨nle rfl, nle rfl⟩ dX11_thickest_45 ?_
          rintro _ mz ⟨rfl, hz⟩
          subst mz
          rw [tk_eq (r := hrN P (-1) P.se j r) ok (fun c hq => (gw_f hq).trans (hc2.f hq)) (fun c hq => by rw [show gI m2 (21 + 2) c = _ from gw_w hq]; exact hc2.wn ok (hrN_ok ok hr j (by omega)) hq), ea]
          refine go_c1 ?_
          refine go_istore_n (q := 3) (i := 3) rfl dX11_thickest_48 (nle rfl) (nle rfl) ?_
          refine go_iload_n (q := 3) (i := 3) rfl rfl dX11_thickest_49 ?_
          refine gz_lt (by omega) (tgt := 59) dX11_thickest_50 (by decide) (fun h50 => by exfalso; omega) (fun h50 => ?_)
          refine go_iload_n (q := 3) (i := 3) rfl rfl dX11_thickest_53 ?_
          refine go_bipush (v := nI 40) (by decide) dX11_thickest_54 ?_
          refine gn_lt (by omega) (by omega) (tgt := 62) dX11_thickest_56 (by decide) (fun h56 => ?_) (fun h56 => by exfalso; omega)
          refine go_iload_n (q := 2) (i := 2) rfl rfl dX11_thickest_62 ?_
          refine gz_ne (by omega) (tgt := 78) dX11_thickest_63 (by decide) (fun h63 => by exfalso; omega) (fun h63 => ?_)
          refine go_aload_n (q := 0) (i := 0) rfl rfl dX11_thickest_66 ?_
          refine go_getR lf11_51 rfl hX.o hX.r6 dX11_thickest_67 ?_
          refine go_getR lf11_130 rfl hX.w6.o hX.w6.r1 dX11_thickest_70 ?_
          refine go_iload_n (q := 3) (i := 3) rfl rfl dX11_thickest_73 ?_
          refine go_iald (j := c) hX.w6.i1 (by omega) (by first | decide | omega) rfl dX11_thickest_74 ?_
          refine go_goto (tgt := 82) dX11_thickest_75 (by decide) ?_
          refine go_iret rfl ⟨Nat.zero_le _, Nat.zero_le _⟩ dX11_thickest_82 ?_
          rw [show gI m2 (21 + 1) c = _ from (gw_f hc4).trans (hc2.f hc4), ec]
          refine ⟨?_, c2⟩
          simp only [thkS, hn, hw, eb, i10, reduceIte, i20, i21, nI_clamp (show j < 2 ^ 31 by omega)]
      · skip
        have hkt := kT_y (r := hrN P (-1) P.se j r) ok (hrN_ok ok hr j (by omega)).1.1 P.rw ok.2.1
        generalize hea : foY (kC (hrN P (-1) P.se j r)) P.wd P.rw (-1, -1) = sa at hkt
        generalize heb : foY (kS (hrN P (-1) P.se j r)) P.wd P.rw (-2, -2) = sb at hkt
        rcases hkt with ⟨rfl, rfl⟩ | ⟨c, v, hc4, hv, rfl, rfl⟩
        · skip
          have ea := hea
          have eb := heb
          refine go_iload_n (q := 1) (i := 1) rfl rfl dX11_thickest_0 ?_
          refine go_callS okmX11_isAhead lmX11_219 ⟨nle rfl, nle rfl⟩ (ev_isAhead) npmX11_isAhead rfl (nle rfl) ⟨nle rfl, nle rfl⟩ dX11_thickest_1 ?_
          rintro _ mz ⟨rfl, hz⟩
          subst mz
          rw [ah_in, hn]
          refine go_c1 ?_
          refine gz_eq (by omega) (tgt := 16) dX11_thickest_4 (by decide) (fun h4 => by exfalso; omega) (fun h4 => ?_)
          refine go_iload_n (q := 2) (i := 2) rfl rfl dX11_thickest_7 ?_
          refine gz_lt (by omega) (tgt := 16) dX11_thickest_8 (by decide) (fun h8 => by exfalso; omega) (fun h8 => ?_)
          refine go_iload_n (q := 2) (i := 2) rfl rfl dX11_thickest_11 ?_
          refine go_iconst (v := nI 1) (by decide) dX11_thickest_12 ?_
          refine gn_le (by omega) (by omega) (tgt := 18) dX11_thickest_13 (by decide) (fun h13 => ?_) (fun h13 => by exfalso; omega)
          refine go_aload_n (q := 0) (i := 0) rfl rfl dX11_thickest_18 ?_
          refine go_getR lf11_51 rfl hX.o hX.r6 dX11_thickest_19 ?_
          refine go_aload_n (q := 0) (i := 0) rfl rfl dX11_thickest_22 ?_
          refine go_getR lf11_47 rfl hX.o hX.r5 dX11_thickest_23 ?_
          refine go_callV okmX1_copyFrom lmX11_205 ⟨nle rfl, nle rfl⟩ hX.w6.o ⟨by decide, rfl⟩ (ev_copyFrom hX.w6 hX.w5 (by omega)) npmX1_copyFrom rfl (nle rfl) ⟨nle rfl, nle rfl⟩ dX11_thickest_26 ?_
          rintro _ m1 ⟨rfl, cA, eA⟩
          have c1 : Ch (LkS pl) m m1 := cA.mn (fun x hx => by unfold LkS; omega)
          have hP := hP.lk hX c1
          have hX := CX.to c1 hX
          have hc1 : CR P (gw m1 21) r := by rw [eA]; exact hc
          refine go_c0 ?_
          refine go_aload_n (q := 0) (i := 0) rfl rfl dX11_thickest_29 ?_
          refine go_iload_n (q := 1) (i := 1) rfl rfl dX11_thickest_30 ?_
          refine go_aload_n (q := 0) (i := 0) rfl rfl dX11_thickest_31 ?_
          refine go_getR lf11_86 rfl hX.o hX.rp dX11_thickest_32 ?_
          refine go_getI lf11_208 rfl hX.wp.o dX11_thickest_35 ?_
          rw [hP.se]
          refine go_callV okmX11_passLater lmX11_211 ⟨nle rfl, nle rfl⟩ hX.o ⟨by decide, rfl⟩ (ev_passLater (M := M) hX hP ok (by omega) hM hr hc1) npmX11_passLater rfl (nle rfl) ⟨nle rfl, nle rfl⟩ dX11_thickest_38 ?_
          rintro _ m2 ⟨rfl, cB, hc2⟩
          have c2 := c1.tr cB
          have hP := hP.lk hX cB
          have hX := CX.to cB hX
          refine go_c0 ?_
          refine go_aload_n (q := 0) (i := 0) rfl rfl dX11_thickest_41 ?_
          refine go_getR lf11_51 rfl hX.o hX.r6 dX11_thickest_42 ?_
          refine go_callV okmX1_thickestCell lmX11_229 ⟨nle rfl, nle rfl⟩ hX.w6.o ⟨by decide, rfl⟩ (ev_thickest hX.w6) npmX1_thickestCell rfl (nle rfl) ⟨nle rfl, nle rfl⟩ dX11_thickest_45 ?_
          rintro _ mz ⟨rfl, hz⟩
          subst mz
          rw [tk_eq (r := hrN P (-1) P.se j r) ok (fun c hq => (gw_f hq).trans (hc2.f hq)) (fun c hq => by rw [show gI m2 (21 + 2) c = _ from gw_w hq]; exact hc2.wn ok (hrN_ok ok hr j (by omega)) hq), ea]
          refine go_c1 ?_
          refine go_istore_n (q := 3) (i := 3) rfl dX11_thickest_48 (nle rfl) (nle rfl) ?_
          refine go_iload_n (q := 3) (i := 3) rfl rfl dX11_thickest_49 ?_
          refine go_if_lt (tgt := 59) dX11_thickest_50 (by decide) (fun h50 => ?_) (fun h50 => by exfalso; exact h50 (by decide))
          refine go_bipush (v := -2) (by decide) dX11_thickest_59 ?_
          refine go_iret rfl ⟨Nat.zero_le _, Nat.zero_le _⟩ dX11_thickest_61 ?_
          refine ⟨?_, c2⟩
          simp only [thkS, hn, hw, eb, i10, reduceIte, i20, i21, nI_clamp (show j < 2 ^ 31 by omega)]
        · skip
          have ea := hea
          have eb := heb
          have ec := kC_v ok hc4 hea (hrN_ok ok hr j (by omega)).1.1
          refine go_iload_n (q := 1) (i := 1) rfl rfl dX11_thickest_0 ?_
          refine go_callS okmX11_isAhead lmX11_219 ⟨nle rfl, nle rfl⟩ (ev_isAhead) npmX11_isAhead rfl (nle rfl) ⟨nle rfl, nle rfl⟩ dX11_thickest_1 ?_
          rintro _ mz ⟨rfl, hz⟩
          subst mz
          rw [ah_in, hn]
          refine go_c1 ?_
          refine gz_eq (by omega) (tgt := 16) dX11_thickest_4 (by decide) (fun h4 => by exfalso; omega) (fun h4 => ?_)
          refine go_iload_n (q := 2) (i := 2) rfl rfl dX11_thickest_7 ?_
          refine gz_lt (by omega) (tgt := 16) dX11_thickest_8 (by decide) (fun h8 => by exfalso; omega) (fun h8 => ?_)
          refine go_iload_n (q := 2) (i := 2) rfl rfl dX11_thickest_11 ?_
          refine go_iconst (v := nI 1) (by decide) dX11_thickest_12 ?_
          refine gn_le (by omega) (by omega) (tgt := 18) dX11_thickest_13 (by decide) (fun h13 => ?_) (fun h13 => by exfalso; omega)
          refine go_aload_n (q := 0) (i := 0) rfl rfl dX11_thickest_18 ?_
          refine go_getR lf11_51 rfl hX.o hX.r6 dX11_thickest_19 ?_
          refine go_aload_n (q := 0) (i := 0) rfl rfl dX11_thickest_22 ?_
          refine go_getR lf11_47 rfl hX.o hX.r5 dX11_thickest_23 ?_
          refine go_callV okmX1_copyFrom lmX11_205 ⟨nle rfl, nle rfl⟩ hX.w6.o ⟨by decide, rfl⟩ (ev_copyFrom hX.w6 hX.w5 (by omega)) npmX1_copyFrom rfl (nle rfl) ⟨nle rfl, nle rfl⟩ dX11_thickest_26 ?_
          rintro _ m1 ⟨rfl, cA, eA⟩
          have c1 : Ch (LkS pl) m m1 := cA.mn (fun x hx => by unfold LkS; omega)
          have hP := hP.lk hX c1
          have hX := CX.to c1 hX
          have hc1 : CR P (gw m1 21) r := by rw [eA]; exact hc
          refine go_c0 ?_
          refine go_aload_n (q := 0) (i := 0) rfl rfl dX11_thickest_29 ?_
          refine go_iload_n (q := 1) (i := 1) rfl rfl dX11_thickest_30 ?_
          refine go_aload_n (q := 0) (i := 0) rfl rfl dX11_thickest_31 ?_
          refine go_getR lf11_86 rfl hX.o hX.rp dX11_thickest_32 ?_
          refine go_getI lf11_208 rfl hX.wp.o dX11_thickest_35 ?_
          rw [hP.se]
          refine go_callV okmX11_passLater lmX11_211 ⟨nle rfl, nle rfl⟩ hX.o ⟨by decide, rfl⟩ (ev_passLater (M := M) hX hP ok (by omega) hM hr hc1) npmX11_passLater rfl (nle rfl) ⟨nle rfl, nle rfl⟩ dX11_thickest_38 ?_
          rintro _ m2 ⟨rfl, cB, hc2⟩
          have c2 := c1.tr cB
          have hP := hP.lk hX cB
          have hX := CX.to cB hX
          refine go_c0 ?_
          refine go_aload_n (q := 0) (i := 0) rfl rfl dX11_thickest_41 ?_
          refine go_getR lf11_51 rfl hX.o hX.r6 dX11_thickest_42 ?_
          refine go_callV okmX1_thickestCell lmX11_229 ⟨nle rfl, nle rfl⟩ hX.w6.o ⟨by decide, rfl⟩ (ev_thickest hX.w6) npmX1_thickestCell rfl (nle rfl) ⟨nle rfl, nle rfl⟩ dX11_thickest_45 ?_
          rintro _ mz ⟨rfl, hz⟩
          subst mz
          rw [tk_eq (r := hrN P (-1) P.se j r) ok (fun c hq => (gw_f hq).trans (hc2.f hq)) (fun c hq => by rw [show gI m2 (21 + 2) c = _ from gw_w hq]; exact hc2.wn ok (hrN_ok ok hr j (by omega)) hq), ea]
          refine go_c1 ?_
          refine go_istore_n (q := 3) (i := 3) rfl dX11_thickest_48 (nle rfl) (nle rfl) ?_
          refine go_iload_n (q := 3) (i := 3) rfl rfl dX11_thickest_49 ?_
          refine gz_lt (by omega) (tgt := 59) dX11_thickest_50 (by decide) (fun h50 => by exfalso; omega) (fun h50 => ?_)
          refine go_iload_n (q := 3) (i := 3) rfl rfl dX11_thickest_53 ?_
          refine go_bipush (v := nI 40) (by decide) dX11_thickest_54 ?_
          refine gn_lt (by omega) (by omega) (tgt := 62) dX11_thickest_56 (by decide) (fun h56 => ?_) (fun h56 => by exfalso; omega)
          refine go_iload_n (q := 2) (i := 2) rfl rfl dX11_thickest_62 ?_
          refine gz_ne (by omega) (tgt := 78) dX11_thickest_63 (by decide) (fun h63 => ?_) (fun h63 => by exfalso; omega)
          refine go_iload_n (q := 3) (i := 3) rfl rfl dX11_thickest_78 ?_
          refine go_callS okmX11_told lmX11_232 ⟨nle rfl, nle rfl⟩ (ev_told) npmX11_told rfl (nle rfl) ⟨nle rfl, nle rfl⟩ dX11_thickest_79 ?_
          rintro _ mz ⟨rfl, hz⟩
          subst mz
          refine go_c1 ?_
          refine go_iret rfl ⟨Nat.zero_le _, Nat.zero_le _⟩ dX11_thickest_82 ?_
          rw [show toldS (nI c) = nI (10 * (c / 8) + c % 8) from told_c hc4]
          refine ⟨?_, c2⟩
          simp only [thkS, hn, hw, eb, i10, reduceIte, i20, i21, nI_clamp (show j < 2 ^ 31 by omega)]
set_option maxRecDepth 100000 in
set_option maxHeartbeats 4000000 in
theorem go_thick {m : Me} {P : Pl} {lv : Nat} (hx : Wf12 m.1 (gR m)) (hm : MdC m P lv) (ok : PlOk P) {n : Int32} {k : Nat} (hk : k ≤ 1) : Go mX12_thickest (fun o m' => o = some (.int (if nI k = nI 0 then (foY (kS (gI m 316)) P.wd P.rw (-2, -2)).2 else (foY (kS (gI m 316)) P.wd P.rw (-2, -2)).1)) ∧ m' = m) 27 [some (.ref 274), some (.int n), some (.int (nI k)), none, none, none, none] [] m 0 0 := by
  have hlv := hm.lv
  have hw8 := ok.1
  have hr5 := ok.2.1
  have key : ∀ y, y ≤ P.rw → ∀ (x4 : Option Value), (True) → Go mX12_thickest (fun o m' => o = some (.int (if nI k = nI 0 then (foY (kS (gI m 316)) P.wd P.rw (-2, -2)).2 else (foY (kS (gI m 316)) P.wd P.rw (-2, -2)).1)) ∧ m' = m) 37 [some (.ref 274), some (.int n), some (.int (nI k)), some (.int (foY (kS (gI m 316)) P.wd y (-2, -2)).1), some (.int (foY (kS (gI m 316)) P.wd y (-2, -2)).2), some (.int (nI y)), x4] [] m 0 0 := by
    refine loop_up P.rw ?_ ?_
    · intro x4 hI
      refine go_iload (i := 5) rfl dX12_thickest_37 ?_
      refine go_aload_n (q := 0) (i := 0) rfl rfl dX12_thickest_39 ?_
      refine go_getR lf12_49 rfl hx.o hx.r24 dX12_thickest_40 ?_
      refine go_aload_n (q := 0) (i := 0) rfl rfl dX12_thickest_43 ?_
      refine go_getI lf12_260 rfl hx.o dX12_thickest_44 ?_
      rw [hm.li]
      refine go_iald (j := lv) hx.i24 (by omega) (by first | decide | omega) rfl dX12_thickest_47 ?_
      rw [hm.rw]
      refine gn_ge (by omega) (by omega) (tgt := 125) dX12_thickest_48 (by decide) (fun h48 => ?_) (fun h48 => by exfalso; omega)
      refine go_iload_n (q := 2) (i := 2) rfl rfl dX12_thickest_125 ?_
      refine gz_ne (by omega) (tgt := 134) dX12_thickest_126 (by decide) (fun h126 => ?_) (fun h126 => ?_)
      · skip
        refine go_iload_n (q := 3) (i := 3) rfl rfl dX12_thickest_134 ?_
        refine go_iret rfl ⟨Nat.zero_le _, Nat.zero_le _⟩ dX12_thickest_135 ?_
        refine ⟨?_, rfl⟩
        have k1 : k = 1 := by omega
        subst k1
        rw [if_neg (by decide)]
      · skip
        refine go_iload (i := 4) rfl dX12_thickest_129 ?_
        refine go_goto (tgt := 135) dX12_thickest_131 (by decide) ?_
        refine go_iret rfl ⟨Nat.zero_le _, Nat.zero_le _⟩ dX12_thickest_135 ?_
        refine ⟨?_, rfl⟩
        subst h126
        rw [if_pos rfl]
    · intro y hi ih x4 hI
      have key2 : ∀ x, x ≤ P.wd → (True) → Go mX12_thickest (fun o m' => o = some (.int (if nI k = nI 0 then (foY (kS (gI m 316)) P.wd P.rw (-2, -2)).2 else (foY (kS (gI m 316)) P.wd P.rw (-2, -2)).1)) ∧ m' = m) 54 [some (.ref 274), some (.int n), some (.int (nI k)), some (.int (foX (kS (gI m 316)) y x (foY (kS (gI m 316)) P.wd y (-2, -2))).1), some (.int (foX (kS (gI m 316)) y x (foY (kS (gI m 316)) P.wd y (-2, -2))).2), some (.int (nI y)), some (.int (nI x))] [] m 0 0 := by
        refine loop_up P.wd ?_ ?_
        · intro hJ
          refine go_iload (i := 6) rfl dX12_thickest_54 ?_
          refine go_aload_n (q := 0) (i := 0) rfl rfl dX12_thickest_56 ?_
          refine go_getR lf12_46 rfl hx.o hx.r23 dX12_thickest_57 ?_
          refine go_aload_n (q := 0) (i := 0) rfl rfl dX12_thickest_60 ?_
          refine go_getI lf12_260 rfl hx.o dX12_thickest_61 ?_
          rw [hm.li]
          refine go_iald (j := lv) hx.i23 (by omega) (by first | decide | omega) rfl dX12_thickest_64 ?_
          rw [hm.wd]
          refine gn_ge (by omega) (by omega) (tgt := 119) dX12_thickest_65 (by decide) (fun h65 => ?_) (fun h65 => by exfalso; omega)
          refine gn_inc (i := 5) (a := y) (q := 1) rfl dX12_thickest_119 (nle rfl) rfl ?_
          refine go_goto (tgt := 37) dX12_thickest_122 (by decide) ?_
          exact ih _ (trivial)
        · intro x hj ih2 hJ
          refine go_iload (i := 6) rfl dX12_thickest_54 ?_
          refine go_aload_n (q := 0) (i := 0) rfl rfl dX12_thickest_56 ?_
          refine go_getR lf12_46 rfl hx.o hx.r23 dX12_thickest_57 ?_
          refine go_aload_n (q := 0) (i := 0) rfl rfl dX12_thickest_60 ?_
          refine go_getI lf12_260 rfl hx.o dX12_thickest_61 ?_
          rw [hm.li]
          refine go_iald (j := lv) hx.i23 (by omega) (by first | decide | omega) rfl dX12_thickest_64 ?_
          rw [hm.wd]
          refine gn_ge (by omega) (by omega) (tgt := 119) dX12_thickest_65 (by decide) (fun h65 => by exfalso; omega) (fun h65 => ?_)
          refine go_aload_n (q := 0) (i := 0) rfl rfl dX12_thickest_68 ?_
          refine go_getR lf12_143 rfl hx.o hx.r59 dX12_thickest_69 ?_
          refine go_bipush (v := nI 8) (by decide) dX12_thickest_72 ?_
          refine go_iload (i := 5) rfl dX12_thickest_74 ?_
          refine gn_mul dX12_thickest_76 ?_
          refine go_iload (i := 6) rfl dX12_thickest_77 ?_
          refine gn_add dX12_thickest_79 ?_
          refine go_iald (j := ((8 * y) + x)) hx.i59 (by omega) (by first | decide | omega) rfl dX12_thickest_80 ?_
          refine go_iload (i := 4) rfl dX12_thickest_81 ?_
          refine go_icmp_gt (tgt := 89) dX12_thickest_83 (by decide) (fun h83 => ?_) (fun h83 => ?_)
          · skip
            refine go_aload_n (q := 0) (i := 0) rfl rfl dX12_thickest_89 ?_
            refine go_getR lf12_143 rfl hx.o hx.r59 dX12_thickest_90 ?_
            refine go_bipush (v := nI 8) (by decide) dX12_thickest_93 ?_
            refine go_iload (i := 5) rfl dX12_thickest_95 ?_
            refine gn_mul dX12_thickest_97 ?_
            refine go_iload (i := 6) rfl dX12_thickest_98 ?_
            refine gn_add dX12_thickest_100 ?_
            refine go_iald (j := ((8 * y) + x)) hx.i59 (by omega) (by first | decide | omega) rfl dX12_thickest_101 ?_
            refine go_istore (i := 4) dX12_thickest_102 (nle rfl) (nle rfl) ?_
            refine go_bipush (v := nI 10) (by decide) dX12_thickest_104 ?_
            refine go_iload (i := 5) rfl dX12_thickest_106 ?_
            refine gn_mul dX12_thickest_108 ?_
            refine go_iload (i := 6) rfl dX12_thickest_109 ?_
            refine gn_add dX12_thickest_111 ?_
            refine go_istore_n (q := 3) (i := 3) rfl dX12_thickest_112 (nle rfl) (nle rfl) ?_
            refine gn_inc (i := 6) (a := x) (q := 1) rfl dX12_thickest_113 (nle rfl) rfl ?_
            refine go_goto (tgt := 54) dX12_thickest_116 (by decide) ?_
            rw [show foX (kS (gI m 316)) y ((x + 1)) (foY (kS (gI m 316)) P.wd y (-2, -2)) = (nI (10 * y + x), gI m 316 (8 * y + x)) from (kS_t (Int32.not_le.mpr h83)).trans (by rw [show (8 * y + x) / 8 = y by omega, show (8 * y + x) % 8 = x by omega])] at ih2
            exact ih2 trivial
          · skip
            refine go_goto (tgt := 113) dX12_thickest_86 (by decide) ?_
            refine gn_inc (i := 6) (a := x) (q := 1) rfl dX12_thickest_113 (nle rfl) rfl ?_
            refine go_goto (tgt := 54) dX12_thickest_116 (by decide) ?_
            rw [show foX (kS (gI m 316)) y ((x + 1)) (foY (kS (gI m 316)) P.wd y (-2, -2)) = foX (kS (gI m 316)) y x (foY (kS (gI m 316)) P.wd y (-2, -2)) from kS_f (Int32.not_lt.mp h83)] at ih2
            exact ih2 trivial
      refine go_iload (i := 5) rfl dX12_thickest_37 ?_
      refine go_aload_n (q := 0) (i := 0) rfl rfl dX12_thickest_39 ?_
      refine go_getR lf12_49 rfl hx.o hx.r24 dX12_thickest_40 ?_
      refine go_aload_n (q := 0) (i := 0) rfl rfl dX12_thickest_43 ?_
      refine go_getI lf12_260 rfl hx.o dX12_thickest_44 ?_
      rw [hm.li]
      refine go_iald (j := lv) hx.i24 (by omega) (by first | decide | omega) rfl dX12_thickest_47 ?_
      rw [hm.rw]
      refine gn_ge (by omega) (by omega) (tgt := 125) dX12_thickest_48 (by decide) (fun h48 => by exfalso; omega) (fun h48 => ?_)
      refine go_iconst (v := nI 0) (by decide) dX12_thickest_51 ?_
      refine go_istore (i := 6) dX12_thickest_52 (nle rfl) (nle rfl) ?_
      exact key2 0 (Nat.zero_le _) (trivial)
  refine go_bipush (v := -2) (by decide) dX12_thickest_27 ?_
  refine go_istore_n (q := 3) (i := 3) rfl dX12_thickest_29 (nle rfl) (nle rfl) ?_
  refine go_bipush (v := -2) (by decide) dX12_thickest_30 ?_
  refine go_istore (i := 4) dX12_thickest_32 (nle rfl) (nle rfl) ?_
  refine go_iconst (v := nI 0) (by decide) dX12_thickest_34 ?_
  refine go_istore (i := 5) dX12_thickest_35 (nle rfl) (nle rfl) ?_
  exact key 0 (Nat.zero_le _) _ (trivial)
set_option maxRecDepth 100000 in
set_option maxHeartbeats 8000000 in
theorem ex_thick {m : Me} {P : Pl} {lv : Nat} (hx : Wf12 m.1 (gR m)) (hm : MdC m P lv) (ok : PlOk P) {n w : Int32} : Ev mX12_thickest [.ref 274, .int n, .int w] m (fun o m' => o = some (.int (thkS P (cp 105 (gI m 315) (gI m 316)) n w)) ∧ Mo m m') := by
  refine ⟨plmX12_thickest, nle rfl, ?_⟩
  have hw8 := ok.1
  have hr5 := ok.2.1
  have hlv := hm.lv
  rcases in_c n (N := 72) (by decide) with hn | ⟨j, hj, rfl, hn⟩
  · skip
    refine go_iload_n (q := 1) (i := 1) rfl rfl dX12_thickest_0 ?_
    refine go_callS okmX12_isLong lmX12_441 ⟨nle rfl, nle rfl⟩ (ex_isLong) npmX12_isLong rfl (nle rfl) ⟨nle rfl, nle rfl⟩ dX12_thickest_1 ?_
    rintro _ mz ⟨rfl, hz⟩
    subst mz
    rw [hn]
    refine go_c1 ?_
    refine gz_eq (by omega) (tgt := 16) dX12_thickest_4 (by decide) (fun h4 => ?_) (fun h4 => by exfalso; omega)
    refine go_iconst (v := -1) (by decide) dX12_thickest_16 ?_
    refine go_iret rfl ⟨Nat.zero_le _, Nat.zero_le _⟩ dX12_thickest_17 ?_
    refine ⟨?_, Mo.rf⟩
    simp only [thkS, hn, i10, reduceIte]
  · skip
    rcases in_c w (N := 1) (by decide) with hw | ⟨k, hk, rfl, hw⟩
    · skip
      refine go_iload_n (q := 1) (i := 1) rfl rfl dX12_thickest_0 ?_
      refine go_callS okmX12_isLong lmX12_441 ⟨nle rfl, nle rfl⟩ (ex_isLong) npmX12_isLong rfl (nle rfl) ⟨nle rfl, nle rfl⟩ dX12_thickest_1 ?_
      rintro _ mz ⟨rfl, hz⟩
      subst mz
      rw [hn]
      refine go_c1 ?_
      refine gz_eq (by omega) (tgt := 16) dX12_thickest_4 (by decide) (fun h4 => by exfalso; omega) (fun h4 => ?_)
      refine go_iload_n (q := 2) (i := 2) rfl rfl dX12_thickest_7 ?_
      refine go_iconst (v := nI 0) (by decide) dX12_thickest_8 ?_
      refine go_iconst (v := nI 1) (by decide) dX12_thickest_9 ?_
      refine go_callS okmX12_in lmX12_361 ⟨nle rfl, nle rfl⟩ (ex_in) npmX12_in rfl (nle rfl) ⟨nle rfl, nle rfl⟩ dX12_thickest_10 ?_
      rintro _ mz ⟨rfl, hz⟩
      subst mz
      rw [hw]
      refine go_c1 ?_
      refine gz_ne (by omega) (tgt := 18) dX12_thickest_13 (by decide) (fun h13 => by exfalso; omega) (fun h13 => ?_)
      refine go_iconst (v := -1) (by decide) dX12_thickest_16 ?_
      refine go_iret rfl ⟨Nat.zero_le _, Nat.zero_le _⟩ dX12_thickest_17 ?_
      refine ⟨?_, Mo.rf⟩
      simp only [thkS, hn, hw, i10, reduceIte]
    · skip
      rcases (show k = 0 ∨ k = 1 by omega) with rfl | rfl
      · skip
        refine go_iload_n (q := 1) (i := 1) rfl rfl dX12_thickest_0 ?_
        refine go_callS okmX12_isLong lmX12_441 ⟨nle rfl, nle rfl⟩ (ex_isLong) npmX12_isLong rfl (nle rfl) ⟨nle rfl, nle rfl⟩ dX12_thickest_1 ?_
        rintro _ mz ⟨rfl, hz⟩
        subst mz
        rw [hn]
        refine go_c1 ?_
        refine gz_eq (by omega) (tgt := 16) dX12_thickest_4 (by decide) (fun h4 => by exfalso; omega) (fun h4 => ?_)
        refine go_iload_n (q := 2) (i := 2) rfl rfl dX12_thickest_7 ?_
        refine go_iconst (v := nI 0) (by decide) dX12_thickest_8 ?_
        refine go_iconst (v := nI 1) (by decide) dX12_thickest_9 ?_
        refine go_callS okmX12_in lmX12_361 ⟨nle rfl, nle rfl⟩ (ex_in) npmX12_in rfl (nle rfl) ⟨nle rfl, nle rfl⟩ dX12_thickest_10 ?_
        rintro _ mz ⟨rfl, hz⟩
        subst mz
        rw [hw]
        refine go_c1 ?_
        refine gz_ne (by omega) (tgt := 18) dX12_thickest_13 (by decide) (fun h13 => ?_) (fun h13 => by exfalso; omega)
        refine go_aload_n (q := 0) (i := 0) rfl rfl dX12_thickest_18 ?_
        refine go_callV okmX12_copies lmX12_413 ⟨nle rfl, nle rfl⟩ hx.o ⟨by decide, rfl⟩ (ex_copies hx hm) npmX12_copies rfl (nle rfl) ⟨nle rfl, nle rfl⟩ dX12_thickest_19 ?_
        rintro _ m1 ⟨rfl, c1, e1, s1, l1, -⟩
        have hx := c1.wf hx
        have hm := c1.md hm
        refine go_c0 ?_
        refine go_aload_n (q := 0) (i := 0) rfl rfl dX12_thickest_22 ?_
        refine go_iload_n (q := 1) (i := 1) rfl rfl dX12_thickest_23 ?_
        refine go_callV okmX12_goes lmX12_438 ⟨nle rfl, nle rfl⟩ hx.o ⟨by decide, rfl⟩ (ex_goes hx hm ok (by omega)) npmX12_goes rfl (nle rfl) ⟨nle rfl, nle rfl⟩ dX12_thickest_24 ?_
        rintro _ m2 ⟨rfl, cB, e2⟩
        rw [s1, l1, e1] at e2
        have c2 := c1.tr cB.1
        have hx := cB.1.wf hx
        have hm := cB.1.md hm
        refine go_c0 ?_
        refine (go_thick (k := 0) hx hm ok (by decide)).mono ?_
        rintro o _ ⟨rfl, rfl⟩
        rw [e2]
        refine ⟨?_, c2⟩
        simp only [thkS, hn, hw, i10, reduceIte, i20, i21, nI_clamp (show j < 2 ^ 31 by omega)]
      · skip
        refine go_iload_n (q := 1) (i := 1) rfl rfl dX12_thickest_0 ?_
        refine go_callS okmX12_isLong lmX12_441 ⟨nle rfl, nle rfl⟩ (ex_isLong) npmX12_isLong rfl (nle rfl) ⟨nle rfl, nle rfl⟩ dX12_thickest_1 ?_
        rintro _ mz ⟨rfl, hz⟩
        subst mz
        rw [hn]
        refine go_c1 ?_
        refine gz_eq (by omega) (tgt := 16) dX12_thickest_4 (by decide) (fun h4 => by exfalso; omega) (fun h4 => ?_)
        refine go_iload_n (q := 2) (i := 2) rfl rfl dX12_thickest_7 ?_
        refine go_iconst (v := nI 0) (by decide) dX12_thickest_8 ?_
        refine go_iconst (v := nI 1) (by decide) dX12_thickest_9 ?_
        refine go_callS okmX12_in lmX12_361 ⟨nle rfl, nle rfl⟩ (ex_in) npmX12_in rfl (nle rfl) ⟨nle rfl, nle rfl⟩ dX12_thickest_10 ?_
        rintro _ mz ⟨rfl, hz⟩
        subst mz
        rw [hw]
        refine go_c1 ?_
        refine gz_ne (by omega) (tgt := 18) dX12_thickest_13 (by decide) (fun h13 => ?_) (fun h13 => by exfalso; omega)
        refine go_aload_n (q := 0) (i := 0) rfl rfl dX12_thickest_18 ?_
        refine go_callV okmX12_copies lmX12_413 ⟨nle rfl, nle rfl⟩ hx.o ⟨by decide, rfl⟩ (ex_copies hx hm) npmX12_copies rfl (nle rfl) ⟨nle rfl, nle rfl⟩ dX12_thickest_19 ?_
        rintro _ m1 ⟨rfl, c1, e1, s1, l1, -⟩
        have hx := c1.wf hx
        have hm := c1.md hm
        refine go_c0 ?_
        refine go_aload_n (q := 0) (i := 0) rfl rfl dX12_thickest_22 ?_
        refine go_iload_n (q := 1) (i := 1) rfl rfl dX12_thickest_23 ?_
        refine go_callV okmX12_goes lmX12_438 ⟨nle rfl, nle rfl⟩ hx.o ⟨by decide, rfl⟩ (ex_goes hx hm ok (by omega)) npmX12_goes rfl (nle rfl) ⟨nle rfl, nle rfl⟩ dX12_thickest_24 ?_
        rintro _ m2 ⟨rfl, cB, e2⟩
        rw [s1, l1, e1] at e2
        have c2 := c1.tr cB.1
        have hx := cB.1.wf hx
        have hm := cB.1.md hm
        refine go_c0 ?_
        refine (go_thick (k := 1) hx hm ok (by decide)).mono ?_
        rintro o _ ⟨rfl, rfl⟩
        rw [e2]
        refine ⟨?_, c2⟩
        simp only [thkS, hn, hw, i10, reduceIte, i20, i21, nI_clamp (show j < 2 ^ 31 by omega)]
