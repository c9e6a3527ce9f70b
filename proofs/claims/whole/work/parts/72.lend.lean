theorem RoOk.up {P : Pl} {M : Nat} {r : Nat → Int32} {k : Nat} {v : Int32} (h : RoOk P M r) (hk : 84 ≤ k) (hk2 : k ≠ 104) : RoOk P M (upd r k v) := by
  obtain ⟨⟨a, b⟩, c, d, f⟩ := h
  refine ⟨⟨fun j hj => ?_, fun j hj l => ?_⟩, fun j hj l => ?_, fun j hj => ?_, ?_⟩
  · rw [upd_ne (by omega)]; exact a j hj
  · rw [upd_ne (by omega)]; exact b j hj l
  · rw [upd_ne (by omega)]; exact c j hj l
  · rw [upd_ne (by omega)]; exact d j hj
  · rw [upd_ne (by omega)]; exact f
theorem RoOk.upS {P : Pl} {M : Nat} {r : Nat → Int32} {k v : Nat} (h : RoOk P M r) (hk : k < 4) (hv : v ≤ 999) : RoOk P M (upd r (80 + k) (nI v)) := by
  obtain ⟨⟨a, b⟩, c, d, f⟩ := h
  refine ⟨⟨fun j hj => ?_, fun j hj l => ?_⟩, fun j hj l => ?_, fun j hj => ?_, ?_⟩
  · rw [upd_ne (by omega)]; exact a j hj
  · rw [upd_ne (by omega)]; exact b j hj l
  · rw [upd_ne (by omega)]; exact c j hj l
  · by_cases e : j = k
    · rw [e, upd_eq]; exact ⟨v, hv, rfl⟩
    · rw [upd_ne (by omega)]; exact d j hj
  · rw [upd_ne (by omega)]; exact f
theorem RoOk.upw {P : Pl} {M : Nat} {r : Nat → Int32} {k : Nat} {v : Int32} (h : RoOk P M r) (hk : k < 40) (hv : v = nI 9 ∨ ∃ h, h < P.hd ∧ v = nI h) : RoOk P M (upd r (40 + k) v) := by
  obtain ⟨⟨a, b⟩, c, d, f⟩ := h
  refine ⟨⟨fun j hj => ?_, fun j hj l => ?_⟩, fun j hj l => ?_, fun j hj => ?_, ?_⟩
  · rw [upd_ne (by omega)]; exact a j hj
  · rw [upd_ne (by omega)]; exact b j hj l
  · by_cases e : j = k
    · rw [e, upd_eq]; exact hv
    · rw [upd_ne (by omega)]; exact c j hj l
  · rw [upd_ne (by omega)]; exact d j hj
  · rw [upd_ne (by omega)]; exact f
theorem dr_ok {P : Pl} {M : Nat} {r : Nat → Int32} {h x y n : Int32} (ok : PlOk P) (hr : RoOk P M r) : ∀ r', (drS P r h x y n).2 = some r' → RoOk P M r' := by
  intro r' e
  have hw8 := ok.1
  have hr5 := ok.2.1
  have hh4 := ok.2.2.1
  rcases hd_c (n := P.hd) (by omega) h with hh | ⟨i, hi, rfl, hh⟩
  · simp only [drS, hh, reduceIte] at e
    exact absurd e (by simp)
  rcases ce_c ok x y with ⟨hca, hic⟩ | ⟨a, b, ha, hb, rfl, rfl, hca, hic⟩
  · simp only [drS, hh, hca, cneg, i10, reduceIte] at e
    exact absurd e (by simp)
  rcases in1_c n (N := 99) (by decide) with hz | ⟨z, hz1, hz9, rfl, hz⟩
  · simp only [drS, hh, hca, hz, i10, reduceIte, cpos (show 8 * b + a < 2 ^ 31 by omega)] at e
    exact absurd e (by simp)
  simp only [drS, hh, hca, hz, i10, reduceIte, cpos (show 8 * b + a < 2 ^ 31 by omega), nI_clamp (show 8 * b + a < 2 ^ 31 by omega), nI_clamp (show i < 2 ^ 31 by omega)] at e
  by_cases e1 : r (40 + (8 * b + a)) = nI i
  · rw [if_pos e1] at e
    by_cases e2 : r (80 + i) < nI z
    · rw [if_pos e2] at e
      exact absurd e (by simp)
    · rw [if_neg e2] at e
      by_cases e3 : r (8 * b + a) + nI z ≤ nI 99
      · rw [if_pos e3] at e
        have e := Option.some.inj e
        rw [← e]
        unfold drR
        obtain ⟨f, hf, ef⟩ := hr.1.1 (8 * b + a) (by omega)
        obtain ⟨s, hs, es⟩ := hr.2.2.1 i (by omega)
        rw [ef, nI_add] at e3 ⊢
        rw [nI_leI (by omega) (by omega)] at e3
        rw [es] at e2 ⊢
        rw [nI_ltI (by omega) (by omega)] at e2
        rw [pk_sub (by omega)]
        exact ((hr.upf (by omega) ⟨by omega, by omega⟩ e3).upS (by omega) (by omega)).up (by omega) (by omega)
      · rw [if_neg e3] at e
        exact absurd e (by simp)
  · rw [if_neg e1] at e
    exact absurd e (by simp)
def lnR (r : Nat → Int32) (h o : Nat) (n : Int32) : Nat → Int32 := upd (upd (upd r (80 + h) (r (80 + h) - n)) (80 + o) (r (80 + o) + n)) (88 + (h * 4 + o)) (r (88 + (h * 4 + o)) + n)
def lnS (P : Pl) (r : Nat → Int32) (h o n : Int32) : Int32 × Option (Nat → Int32) := if inS h (nI 0) (nI P.hd - nI 1) = nI 0 then (-1, none) else if inS o (nI 0) (nI P.hd - nI 1) = nI 0 then (-1, none) else if h = o then (-1, none) else if inS n (nI 1) (nI 999) = nI 0 then (-1, none) else if r (80 + h.toNatClampNeg) < n then (-2, none) else if r (80 + o.toNatClampNeg) + n ≤ nI 999 then (r (80 + h.toNatClampNeg) - n, some (lnR r h.toNatClampNeg o.toNatClampNeg n)) else (-2, none)
theorem ln_ok {P : Pl} {M : Nat} {r : Nat → Int32} {h o n : Int32} (ok : PlOk P) (hr : RoOk P M r) : ∀ r', (lnS P r h o n).2 = some r' → RoOk P M r' := by
  intro r' e
  have hh4 := ok.2.2.1
  rcases hd_c (n := P.hd) (by omega) h with hh | ⟨i, hi, rfl, hh⟩
  · simp only [lnS, hh, reduceIte] at e
    exact absurd e (by simp)
  rcases hd_c (n := P.hd) (by omega) o with ho | ⟨q, hq, rfl, ho⟩
  · simp only [lnS, hh, ho, i10, reduceIte] at e
    exact absurd e (by simp)
  by_cases he : i = q
  · subst he
    simp only [lnS, hh, i10, reduceIte] at e
    exact absurd e (by simp)
  rcases in1_c n (N := 999) (by decide) with hz | ⟨z, hz1, hz9, rfl, hz⟩
  · simp only [lnS, hh, ho, hz, i10, reduceIte, nI_ne (show i < 2 ^ 31 by omega) (show q < 2 ^ 31 by omega) he] at e
    exact absurd e (by simp)
  simp only [lnS, hh, ho, hz, i10, reduceIte, nI_ne (show i < 2 ^ 31 by omega) (show q < 2 ^ 31 by omega) he, nI_clamp (show q < 2 ^ 31 by omega), nI_clamp (show i < 2 ^ 31 by omega)] at e
  by_cases e2 : r (80 + i) < nI z
  · rw [if_pos e2] at e
    exact absurd e (by simp)
  · rw [if_neg e2] at e
    by_cases e3 : r (80 + q) + nI z ≤ nI 999
    · rw [if_pos e3] at e
      have e := Option.some.inj e
      rw [← e]
      unfold lnR
      obtain ⟨f, hf, ef⟩ := hr.2.2.1 q (by omega)
      obtain ⟨s, hs, es⟩ := hr.2.2.1 i (by omega)
      rw [ef, nI_add] at e3 ⊢
      rw [nI_leI (by omega) (by omega)] at e3
      rw [es] at e2 ⊢
      rw [nI_ltI (by omega) (by omega)] at e2
      rw [pk_sub (by omega)]
      exact ((hr.upS (by omega) (by omega)).upS (by omega) e3).up (by omega) (by omega)
    · rw [if_neg e3] at e
      exact absurd e (by simp)
set_option maxRecDepth 100000 in
set_option maxHeartbeats 8000000 in
theorem ev_lend {m : Me} {pl dr M : Nat} {P : Pl} {r : Nat → Int32} (hX : CX m.1 (gR m) pl dr) (hP : PlC m pl P) (ok : PlOk P) (hM : M < 2 ^ 18) (hr : RoOk P M r) (hc : CR P (gw m 15) r) (hps : PsO m) {h h2 n : Int32} : Ev mX11_lend [.ref 0, .int h, .int h2, .int n] m (fun o m' => o = some (.int (lnS P r h h2 n).1) ∧ DnC P pl m m' (lnS P r h h2 n).2) := by
  refine ⟨plmX11_lend, nle rfl, ?_⟩
  have hw8 := ok.1
  have hr5 := ok.2.1
  have hpd := hX.pd
  have hh4 := ok.2.2.1
  have hu6 := ok.2.2.2.1
  obtain ⟨px, ps, hx30, hs30, hp1, hp2⟩ := hps
  rcases hd_c (n := P.hd) (by omega) h with hh | ⟨i, hi, rfl, hh⟩
  · skip
    refine go_aload_n (q := 0) (i := 0) rfl rfl dX11_lend_0 ?_
    refine go_iload_n (q := 1) (i := 1) rfl rfl dX11_lend_1 ?_
    refine go_iload_n (q := 2) (i := 2) rfl rfl dX11_lend_2 ?_
    refine go_callV okmX11_areTwoHoldings lmX11_198 ⟨nle rfl, nle rfl⟩ hX.o ⟨by decide, rfl⟩ (ev_two hX hP ok) npmX11_areTwoHoldings rfl (nle rfl) ⟨nle rfl, nle rfl⟩ dX11_lend_3 ?_
    rintro _ mz ⟨rfl, hz0⟩
    subst mz
    rw [show twS P h h2 = nI 0 from if_pos hh]
    refine go_c1 ?_
    refine gz_eq (by omega) (tgt := 21) dX11_lend_6 (by decide) (fun h6 => ?_) (fun h6 => by exfalso; omega)
    refine go_iconst (v := -1) (by decide) dX11_lend_21 ?_
    refine go_iret rfl ⟨Nat.zero_le _, Nat.zero_le _⟩ dX11_lend_22 ?_
    have e : lnS P r h h2 n = (-1, none) := by simp only [lnS, hh, reduceIte]
    rw [e]
    exact ⟨rfl, ClK.rf⟩
  · skip
    rcases hd_c (n := P.hd) (by omega) h2 with ho | ⟨q, hq, rfl, ho⟩
    · skip
      refine go_aload_n (q := 0) (i := 0) rfl rfl dX11_lend_0 ?_
      refine go_iload_n (q := 1) (i := 1) rfl rfl dX11_lend_1 ?_
      refine go_iload_n (q := 2) (i := 2) rfl rfl dX11_lend_2 ?_
      refine go_callV okmX11_areTwoHoldings lmX11_198 ⟨nle rfl, nle rfl⟩ hX.o ⟨by decide, rfl⟩ (ev_two hX hP ok) npmX11_areTwoHoldings rfl (nle rfl) ⟨nle rfl, nle rfl⟩ dX11_lend_3 ?_
      rintro _ mz ⟨rfl, hz0⟩
      subst mz
      rw [show twS P (nI i) h2 = nI 0 from by simp only [twS, hh, ho, i10, reduceIte]]
      refine go_c1 ?_
      refine gz_eq (by omega) (tgt := 21) dX11_lend_6 (by decide) (fun h6 => ?_) (fun h6 => by exfalso; omega)
      refine go_iconst (v := -1) (by decide) dX11_lend_21 ?_
      refine go_iret rfl ⟨Nat.zero_le _, Nat.zero_le _⟩ dX11_lend_22 ?_
      have e : lnS P r (nI i) h2 n = (-1, none) := by simp only [lnS, hh, ho, i10, reduceIte]
      rw [e]
      exact ⟨rfl, ClK.rf⟩
    · skip
      by_cases he : i = q
      · skip
        subst he
        refine go_aload_n (q := 0) (i := 0) rfl rfl dX11_lend_0 ?_
        refine go_iload_n (q := 1) (i := 1) rfl rfl dX11_lend_1 ?_
        refine go_iload_n (q := 2) (i := 2) rfl rfl dX11_lend_2 ?_
        refine go_callV okmX11_areTwoHoldings lmX11_198 ⟨nle rfl, nle rfl⟩ hX.o ⟨by decide, rfl⟩ (ev_two hX hP ok) npmX11_areTwoHoldings rfl (nle rfl) ⟨nle rfl, nle rfl⟩ dX11_lend_3 ?_
        rintro _ mz ⟨rfl, hz0⟩
        subst mz
        rw [show twS P (nI i) (nI i) = nI 0 from by simp only [twS, hh, i10, reduceIte]]
        refine go_c1 ?_
        refine gz_eq (by omega) (tgt := 21) dX11_lend_6 (by decide) (fun h6 => ?_) (fun h6 => by exfalso; omega)
        refine go_iconst (v := -1) (by decide) dX11_lend_21 ?_
        refine go_iret rfl ⟨Nat.zero_le _, Nat.zero_le _⟩ dX11_lend_22 ?_
        have e : lnS P r (nI i) (nI i) n = (-1, none) := by simp only [lnS, hh, i10, reduceIte]
        rw [e]
        exact ⟨rfl, ClK.rf⟩
      · skip
        rcases in1_c n (N := 999) (by decide) with hz | ⟨z, hz1, hz9, rfl, hz⟩
        · skip
          refine go_aload_n (q := 0) (i := 0) rfl rfl dX11_lend_0 ?_
          refine go_iload_n (q := 1) (i := 1) rfl rfl dX11_lend_1 ?_
          refine go_iload_n (q := 2) (i := 2) rfl rfl dX11_lend_2 ?_
          refine go_callV okmX11_areTwoHoldings lmX11_198 ⟨nle rfl, nle rfl⟩ hX.o ⟨by decide, rfl⟩ (ev_two hX hP ok) npmX11_areTwoHoldings rfl (nle rfl) ⟨nle rfl, nle rfl⟩ dX11_lend_3 ?_
          rintro _ mz ⟨rfl, hz0⟩
          subst mz
          rw [show twS P (nI i) (nI q) = nI 1 from by simp only [twS, hh, ho, i10, reduceIte, nI_ne (show i < 2 ^ 31 by omega) (show q < 2 ^ 31 by omega) he]]
          refine go_c1 ?_
          refine gz_eq (by omega) (tgt := 21) dX11_lend_6 (by decide) (fun h6 => by exfalso; omega) (fun h6 => ?_)
          refine go_iload_n (q := 3) (i := 3) rfl rfl dX11_lend_9 ?_
          refine go_iconst (v := nI 1) (by decide) dX11_lend_10 ?_
          refine go_icmp_lt (tgt := 21) dX11_lend_11 (by decide) (fun h11 => ?_) (fun h11 => ?_)
          · skip
            refine go_iconst (v := -1) (by decide) dX11_lend_21 ?_
            refine go_iret rfl ⟨Nat.zero_le _, Nat.zero_le _⟩ dX11_lend_22 ?_
            have e : lnS P r (nI i) (nI q) n = (-1, none) := by simp only [lnS, hh, ho, hz, i10, reduceIte, nI_ne (show i < 2 ^ 31 by omega) (show q < 2 ^ 31 by omega) he]
            rw [e]
            exact ⟨rfl, ClK.rf⟩
          · skip
            refine go_iload_n (q := 3) (i := 3) rfl rfl dX11_lend_14 ?_
            refine go_sipush (v := nI 999) (by decide) dX11_lend_15 ?_
            refine go_icmp_le (tgt := 23) dX11_lend_18 (by decide) (fun h18 => by exfalso; exact absurd (hz.symm.trans (in_yes h11 (Int32.not_lt.mpr h18))) (by decide)) (fun h18 => ?_)
            refine go_iconst (v := -1) (by decide) dX11_lend_21 ?_
            refine go_iret rfl ⟨Nat.zero_le _, Nat.zero_le _⟩ dX11_lend_22 ?_
            have e : lnS P r (nI i) (nI q) n = (-1, none) := by simp only [lnS, hh, ho, hz, i10, reduceIte, nI_ne (show i < 2 ^ 31 by omega) (show q < 2 ^ 31 by omega) he]
            rw [e]
            exact ⟨rfl, ClK.rf⟩
        · skip
          refine go_aload_n (q := 0) (i := 0) rfl rfl dX11_lend_0 ?_
          refine go_iload_n (q := 1) (i := 1) rfl rfl dX11_lend_1 ?_
          refine go_iload_n (q := 2) (i := 2) rfl rfl dX11_lend_2 ?_
          refine go_callV okmX11_areTwoHoldings lmX11_198 ⟨nle rfl, nle rfl⟩ hX.o ⟨by decide, rfl⟩ (ev_two hX hP ok) npmX11_areTwoHoldings rfl (nle rfl) ⟨nle rfl, nle rfl⟩ dX11_lend_3 ?_
          rintro _ mz ⟨rfl, hz0⟩
          subst mz
          rw [show twS P (nI i) (nI q) = nI 1 from by simp only [twS, hh, ho, i10, reduceIte, nI_ne (show i < 2 ^ 31 by omega) (show q < 2 ^ 31 by omega) he]]
          refine go_c1 ?_
          refine gz_eq (by omega) (tgt := 21) dX11_lend_6 (by decide) (fun h6 => by exfalso; omega) (fun h6 => ?_)
          refine go_iload_n (q := 3) (i := 3) rfl rfl dX11_lend_9 ?_
          refine go_iconst (v := nI 1) (by decide) dX11_lend_10 ?_
          refine gn_lt (by omega) (by omega) (tgt := 21) dX11_lend_11 (by decide) (fun h11 => by exfalso; omega) (fun h11 => ?_)
          refine go_iload_n (q := 3) (i := 3) rfl rfl dX11_lend_14 ?_
          refine go_sipush (v := nI 999) (by decide) dX11_lend_15 ?_
          refine gn_le (by omega) (by omega) (tgt := 23) dX11_lend_18 (by decide) (fun h18 => ?_) (fun h18 => by exfalso; omega)
          refine go_aload_n (q := 0) (i := 0) rfl rfl dX11_lend_23 ?_
          refine go_getR lf11_47 rfl hX.o hX.r5 dX11_lend_24 ?_
          refine go_getR lf11_156 rfl hX.w5.o hX.w5.r3 dX11_lend_27 ?_
          refine go_iload_n (q := 1) (i := 1) rfl rfl dX11_lend_30 ?_
          refine go_iald (j := i) hX.w5.i3 (by omega) (by first | decide | omega) rfl dX11_lend_31 ?_
          rw [show gI m (15 + 3) i = r (80 + i) from (gw_s (by omega)).trans (hc.s (by omega) (by omega))]
          refine go_iload_n (q := 3) (i := 3) rfl rfl dX11_lend_32 ?_
          refine go_icmp_lt (tgt := 53) dX11_lend_33 (by decide) (fun h33 => ?_) (fun h33 => ?_)
          · skip
            refine go_bipush (v := -2) (by decide) dX11_lend_53 ?_
            refine go_iret rfl ⟨Nat.zero_le _, Nat.zero_le _⟩ dX11_lend_55 ?_
            have e : lnS P r (nI i) (nI q) (nI z) = (-2, none) := by
              simp only [lnS, hh, ho, hz, i10, reduceIte, nI_ne (show i < 2 ^ 31 by omega) (show q < 2 ^ 31 by omega) he, nI_clamp (show i < 2 ^ 31 by omega), nI_clamp (show q < 2 ^ 31 by omega)]
              rw [if_pos h33]
            rw [e]
            exact ⟨rfl, ClK.rf⟩
          · skip
            refine go_aload_n (q := 0) (i := 0) rfl rfl dX11_lend_36 ?_
            refine go_getR lf11_47 rfl hX.o hX.r5 dX11_lend_37 ?_
            refine go_getR lf11_156 rfl hX.w5.o hX.w5.r3 dX11_lend_40 ?_
            refine go_iload_n (q := 2) (i := 2) rfl rfl dX11_lend_43 ?_
            refine go_iald (j := q) hX.w5.i3 (by omega) (by first | decide | omega) rfl dX11_lend_44 ?_
            rw [show gI m (15 + 3) q = r (80 + q) from (gw_s (by omega)).trans (hc.s (by omega) (by omega))]
            refine go_iload_n (q := 3) (i := 3) rfl rfl dX11_lend_45 ?_
            refine go_iadd dX11_lend_46 ?_
            refine go_sipush (v := nI 999) (by decide) dX11_lend_47 ?_
            refine go_icmp_le (tgt := 56) dX11_lend_50 (by decide) (fun h50 => ?_) (fun h50 => ?_)
            · skip
              refine go_aload_n (q := 0) (i := 0) rfl rfl dX11_lend_56 ?_
              refine go_getR lf11_57 rfl hX.o hX.r7 dX11_lend_57 ?_
              refine go_aload_n (q := 0) (i := 0) rfl rfl dX11_lend_60 ?_
              refine go_getR lf11_47 rfl hX.o hX.r5 dX11_lend_61 ?_
              refine go_callV okmX6_keep lmX11_194 ⟨nle rfl, nle rfl⟩ hX.w7.o ⟨by decide, rfl⟩ (ev_keep hX.w7 hX.w5 hx30 hs30 hp1 hp2) npmX6_keep rfl (nle rfl) ⟨nle rfl, nle rfl⟩ dX11_lend_64 ?_
              rintro _ m1 ⟨rfl, cK, k1, k2, k3, k4⟩
              have hX := CX.to cK hX
              have hcK : CR P (gw m1 15) r := by rw [gw_keep cK (fun y a b => by omega)]; exact hc
              refine go_c0 ?_
              refine go_aload_n (q := 0) (i := 0) rfl rfl dX11_lend_67 ?_
              refine go_getR lf11_47 rfl hX.o hX.r5 dX11_lend_68 ?_
              refine go_getR lf11_156 rfl hX.w5.o hX.w5.r3 dX11_lend_71 ?_
              refine go_iload_n (q := 1) (i := 1) rfl rfl dX11_lend_74 ?_
              refine go_dup2 rfl rfl dX11_lend_75 ?_
              refine go_iald (j := i) hX.w5.i3 (by omega) (by first | decide | omega) rfl dX11_lend_76 ?_
              rw [show gI m1 (15 + 3) i = r (80 + i) from (gw_s (by omega)).trans (hcK.s (by omega) (by omega))]
              refine go_iload_n (q := 3) (i := 3) rfl rfl dX11_lend_77 ?_
              refine go_isub dX11_lend_78 ?_
              refine go_iast (j := i) hX.w5.i3 (by omega) (by first | decide | omega) rfl dX11_lend_79 ?_
              generalize hmA : sI m1 (15 + 3) _ = mA
              have cA : Ch (fun y => 15 ≤ y ∧ y ≤ 20) m1 mA := by rw [← hmA]; exact Ch.I (by omega)
              have hcA : CR P (gw mA 15) (upd r (80 + i) (r (80 + i) - nI z)) := by
                rw [← hmA, gw_upds (by omega)]
                exact hcK.up (by omega)
              have hX := CX.to cA hX
              refine go_aload_n (q := 0) (i := 0) rfl rfl dX11_lend_80 ?_
              refine go_getR lf11_47 rfl hX.o hX.r5 dX11_lend_81 ?_
              refine go_getR lf11_156 rfl hX.w5.o hX.w5.r3 dX11_lend_84 ?_
              refine go_iload_n (q := 2) (i := 2) rfl rfl dX11_lend_87 ?_
              refine go_dup2 rfl rfl dX11_lend_88 ?_
              refine go_iald (j := q) hX.w5.i3 (by omega) (by first | decide | omega) rfl dX11_lend_89 ?_
              rw [show gI mA (15 + 3) q = r (80 + q) from (gw_s (by omega)).trans ((hcA.s (by omega) (by omega)).trans (upd_ne (by omega)))]
              refine go_iload_n (q := 3) (i := 3) rfl rfl dX11_lend_90 ?_
              refine go_iadd dX11_lend_91 ?_
              refine go_iast (j := q) hX.w5.i3 (by omega) (by first | decide | omega) rfl dX11_lend_92 ?_
              generalize hmB : sI mA (15 + 3) _ = mB
              have cB : Ch (fun y => 15 ≤ y ∧ y ≤ 20) mA mB := by rw [← hmB]; exact Ch.I (by omega)
              have hcB : CR P (gw mB 15) (upd (upd r (80 + i) (r (80 + i) - nI z)) (80 + q) (r (80 + q) + nI z)) := by
                rw [← hmB, gw_upds (by omega)]
                exact hcA.up (by omega)
              have hX := CX.to cB hX
              refine go_aload_n (q := 0) (i := 0) rfl rfl dX11_lend_93 ?_
              refine go_getR lf11_47 rfl hX.o hX.r5 dX11_lend_94 ?_
              refine go_iload_n (q := 1) (i := 1) rfl rfl dX11_lend_97 ?_
              refine go_iload_n (q := 2) (i := 2) rfl rfl dX11_lend_98 ?_
              refine go_iload_n (q := 3) (i := 3) rfl rfl dX11_lend_99 ?_
              refine go_callV okmX1_addLoan lmX11_201 ⟨nle rfl, nle rfl⟩ hX.w5.o ⟨by decide, rfl⟩ (ev_addLoan hX.w5 (by omega) (by omega)) npmX1_addLoan rfl (nle rfl) ⟨nle rfl, nle rfl⟩ dX11_lend_100 ?_
              rintro _ mC ⟨rfl, hmC⟩
              have cC : Ch (fun y => 15 ≤ y ∧ y ≤ 20) mB mC := by rw [hmC]; exact Ch.I (by omega)
              have hcC : CR P (gw mC 15) (upd (upd (upd r (80 + i) (r (80 + i) - nI z)) (80 + q) (r (80 + q) + nI z)) (88 + (i * 4 + q)) (r (88 + (i * 4 + q)) + nI z)) := by
                rw [hmC, show gI mB (15 + 5) (i * 4 + q) = r (88 + (i * 4 + q)) from (gw_l (by omega)).trans ((hcB.s (by omega) (by omega)).trans ((upd_ne (by omega)).trans (upd_ne (by omega)))), show gw (sI mB (15 + 5) (upd (gI mB (15 + 5)) (i * 4 + q) (r (88 + (i * 4 + q)) + nI z))) 15 = _ from gw_updl (by omega)]
                exact hcB.up (by omega)
              have hX := CX.to cC hX
              refine go_c0 ?_
              refine go_aload_n (q := 0) (i := 0) rfl rfl dX11_lend_103 ?_
              refine go_getR lf11_47 rfl hX.o hX.r5 dX11_lend_104 ?_
              refine go_getR lf11_156 rfl hX.w5.o hX.w5.r3 dX11_lend_107 ?_
              refine go_iload_n (q := 1) (i := 1) rfl rfl dX11_lend_110 ?_
              refine go_iald (j := i) hX.w5.i3 (by omega) (by first | decide | omega) rfl dX11_lend_111 ?_
              rw [show gI mC (15 + 3) i = r (80 + i) - nI z from (gw_s (by omega)).trans ((hcC.s (by omega) (by omega)).trans ((upd_ne (by omega)).trans ((upd_ne (by omega)).trans upd_eq)))]
              refine go_iret rfl ⟨Nat.zero_le _, Nat.zero_le _⟩ dX11_lend_112 ?_
              have e : lnS P r (nI i) (nI q) (nI z) = (r (80 + i) - nI z, some (lnR r i q (nI z))) := by
                simp only [lnS, hh, ho, hz, i10, reduceIte, nI_ne (show i < 2 ^ 31 by omega) (show q < 2 ^ 31 by omega) he, nI_clamp (show i < 2 ^ 31 by omega), nI_clamp (show q < 2 ^ 31 by omega)]
                rw [if_neg h33, if_pos h50]
              rw [e]
              have cABC := (cA.tr cB).tr cC
              exact ⟨rfl, (cK.mn (fun y hy => by unfold DnA LkS; omega)).tr (cABC.mn (fun y hy => by unfold DnA LkS; omega)), hcC, KpC.of hx30 hs30 hp1 hp2 k1 k2 k3 k4 (fun y a b => cABC.at (by omega))⟩
            · skip
              refine go_bipush (v := -2) (by decide) dX11_lend_53 ?_
              refine go_iret rfl ⟨Nat.zero_le _, Nat.zero_le _⟩ dX11_lend_55 ?_
              have e : lnS P r (nI i) (nI q) (nI z) = (-2, none) := by
                simp only [lnS, hh, ho, hz, i10, reduceIte, nI_ne (show i < 2 ^ 31 by omega) (show q < 2 ^ 31 by omega) he, nI_clamp (show i < 2 ^ 31 by omega), nI_clamp (show q < 2 ^ 31 by omega)]
                rw [if_neg h33, if_neg h50]
              rw [e]
              exact ⟨rfl, ClK.rf⟩
set_option maxRecDepth 100000 in
set_option maxHeartbeats 8000000 in
theorem ex_lend {m : Me} {P : Pl} {lv : Nat} (hx : Wf12 m.1 (gR m)) (hm : MdC m P lv) (ok : PlOk P) (hps : PsM m) {h h2 n : Int32} : Ev mX12_lend [.ref 274, .int h, .int h2, .int n] m (fun o m' => o = some (.int (lnS P (cp 105 (gI m 315) (gI m 316)) h h2 n).1) ∧ DnM m m' (lnS P (cp 105 (gI m 315) (gI m 316)) h h2 n).2) := by
  refine ⟨plmX12_lend, nle rfl, ?_⟩
  have hw8 := ok.1
  have hr5 := ok.2.1
  have hlv := hm.lv
  have hh4 := ok.2.2.1
  have hu6 := ok.2.2.2.1
  obtain ⟨u, hu30, hu1⟩ := hps
  have hx0 := hx
  rcases hd_c (n := P.hd) (by omega) h with hh | ⟨i, hi, rfl, hh⟩
  · skip
    refine go_aload_n (q := 0) (i := 0) rfl rfl dX12_lend_0 ?_
    refine go_iload_n (q := 1) (i := 1) rfl rfl dX12_lend_1 ?_
    refine go_callV okmX12_isHolding lmX12_416 ⟨nle rfl, nle rfl⟩ hx.o ⟨by decide, rfl⟩ (ex_isHolding hx hm) npmX12_isHolding rfl (nle rfl) ⟨nle rfl, nle rfl⟩ dX12_lend_2 ?_
    rintro _ mz ⟨rfl, hz⟩
    subst mz
    rw [hh]
    refine go_c1 ?_
    refine gz_eq (by omega) (tgt := 32) dX12_lend_5 (by decide) (fun h5 => ?_) (fun h5 => by exfalso; omega)
    refine go_iconst (v := -1) (by decide) dX12_lend_32 ?_
    refine go_iret rfl ⟨Nat.zero_le _, Nat.zero_le _⟩ dX12_lend_33 ?_
    have e : lnS P (cp 105 (gI m 315) (gI m 316)) h h2 n = (-1, none) := by simp only [lnS, hh, reduceIte]
    rw [e]
    exact ⟨rfl, RfK.rf⟩
  · skip
    rcases hd_c (n := P.hd) (by omega) h2 with ho | ⟨q, hq, rfl, ho⟩
    · skip
      refine go_aload_n (q := 0) (i := 0) rfl rfl dX12_lend_0 ?_
      refine go_iload_n (q := 1) (i := 1) rfl rfl dX12_lend_1 ?_
      refine go_callV okmX12_isHolding lmX12_416 ⟨nle rfl, nle rfl⟩ hx.o ⟨by decide, rfl⟩ (ex_isHolding hx hm) npmX12_isHolding rfl (nle rfl) ⟨nle rfl, nle rfl⟩ dX12_lend_2 ?_
      rintro _ mz ⟨rfl, hz⟩
      subst mz
      rw [hh]
      refine go_c1 ?_
      refine gz_eq (by omega) (tgt := 32) dX12_lend_5 (by decide) (fun h5 => by exfalso; omega) (fun h5 => ?_)
      refine go_aload_n (q := 0) (i := 0) rfl rfl dX12_lend_8 ?_
      refine go_iload_n (q := 2) (i := 2) rfl rfl dX12_lend_9 ?_
      refine go_callV okmX12_isHolding lmX12_416 ⟨nle rfl, nle rfl⟩ hx.o ⟨by decide, rfl⟩ (ex_isHolding hx hm) npmX12_isHolding rfl (nle rfl) ⟨nle rfl, nle rfl⟩ dX12_lend_10 ?_
      rintro _ mz ⟨rfl, hz⟩
      subst mz
      rw [ho]
      refine go_c1 ?_
      refine gz_eq (by omega) (tgt := 32) dX12_lend_13 (by decide) (fun h13 => ?_) (fun h13 => by exfalso; omega)
      refine go_iconst (v := -1) (by decide) dX12_lend_32 ?_
      refine go_iret rfl ⟨Nat.zero_le _, Nat.zero_le _⟩ dX12_lend_33 ?_
      have e : lnS P (cp 105 (gI m 315) (gI m 316)) (nI i) h2 n = (-1, none) := by simp only [lnS, hh, ho, i10, reduceIte]
      rw [e]
      exact ⟨rfl, RfK.rf⟩
    · skip
      by_cases he : i = q
      · skip
        subst he
        refine go_aload_n (q := 0) (i := 0) rfl rfl dX12_lend_0 ?_
        refine go_iload_n (q := 1) (i := 1) rfl rfl dX12_lend_1 ?_
        refine go_callV okmX12_isHolding lmX12_416 ⟨nle rfl, nle rfl⟩ hx.o ⟨by decide, rfl⟩ (ex_isHolding hx hm) npmX12_isHolding rfl (nle rfl) ⟨nle rfl, nle rfl⟩ dX12_lend_2 ?_
        rintro _ mz ⟨rfl, hz⟩
        subst mz
        rw [hh]
        refine go_c1 ?_
        refine gz_eq (by omega) (tgt := 32) dX12_lend_5 (by decide) (fun h5 => by exfalso; omega) (fun h5 => ?_)
        refine go_aload_n (q := 0) (i := 0) rfl rfl dX12_lend_8 ?_
        refine go_iload_n (q := 2) (i := 2) rfl rfl dX12_lend_9 ?_
        refine go_callV okmX12_isHolding lmX12_416 ⟨nle rfl, nle rfl⟩ hx.o ⟨by decide, rfl⟩ (ex_isHolding hx hm) npmX12_isHolding rfl (nle rfl) ⟨nle rfl, nle rfl⟩ dX12_lend_10 ?_
        rintro _ mz ⟨rfl, hz⟩
        subst mz
        rw [hh]
        refine go_c1 ?_
        refine gz_eq (by omega) (tgt := 32) dX12_lend_13 (by decide) (fun h13 => by exfalso; omega) (fun h13 => ?_)
        refine go_iload_n (q := 1) (i := 1) rfl rfl dX12_lend_16 ?_
        refine go_iload_n (q := 2) (i := 2) rfl rfl dX12_lend_17 ?_
        refine gn_eq (by omega) (by omega) (tgt := 32) dX12_lend_18 (by decide) (fun h18 => ?_) (fun h18 => by exfalso; omega)
        refine go_iconst (v := -1) (by decide) dX12_lend_32 ?_
        refine go_iret rfl ⟨Nat.zero_le _, Nat.zero_le _⟩ dX12_lend_33 ?_
        have e : lnS P (cp 105 (gI m 315) (gI m 316)) (nI i) (nI i) n = (-1, none) := by simp only [lnS, hh, i10, reduceIte]
        rw [e]
        exact ⟨rfl, RfK.rf⟩
      · skip
        rcases in1_c n (N := 999) (by decide) with hz | ⟨z, hz1, hz9, rfl, hz⟩
        · skip
          refine go_aload_n (q := 0) (i := 0) rfl rfl dX12_lend_0 ?_
          refine go_iload_n (q := 1) (i := 1) rfl rfl dX12_lend_1 ?_
          refine go_callV okmX12_isHolding lmX12_416 ⟨nle rfl, nle rfl⟩ hx.o ⟨by decide, rfl⟩ (ex_isHolding hx hm) npmX12_isHolding rfl (nle rfl) ⟨nle rfl, nle rfl⟩ dX12_lend_2 ?_
          rintro _ mz ⟨rfl, hz⟩
          subst mz
          rw [hh]
          refine go_c1 ?_
          refine gz_eq (by omega) (tgt := 32) dX12_lend_5 (by decide) (fun h5 => by exfalso; omega) (fun h5 => ?_)
          refine go_aload_n (q := 0) (i := 0) rfl rfl dX12_lend_8 ?_
          refine go_iload_n (q := 2) (i := 2) rfl rfl dX12_lend_9 ?_
          refine go_callV okmX12_isHolding lmX12_416 ⟨nle rfl, nle rfl⟩ hx.o ⟨by decide, rfl⟩ (ex_isHolding hx hm) npmX12_isHolding rfl (nle rfl) ⟨nle rfl, nle rfl⟩ dX12_lend_10 ?_
          rintro _ mz ⟨rfl, hz⟩
          subst mz
          rw [ho]
          refine go_c1 ?_
          refine gz_eq (by omega) (tgt := 32) dX12_lend_13 (by decide) (fun h13 => by exfalso; omega) (fun h13 => ?_)
          refine go_iload_n (q := 1) (i := 1) rfl rfl dX12_lend_16 ?_
          refine go_iload_n (q := 2) (i := 2) rfl rfl dX12_lend_17 ?_
          refine gn_eq (by omega) (by omega) (tgt := 32) dX12_lend_18 (by decide) (fun h18 => by exfalso; omega) (fun h18 => ?_)
          refine go_iload_n (q := 3) (i := 3) rfl rfl dX12_lend_21 ?_
          refine go_iconst (v := nI 1) (by decide) dX12_lend_22 ?_
          refine go_sipush (v := nI 999) (by decide) dX12_lend_23 ?_
          refine go_callS okmX12_in lmX12_361 ⟨nle rfl, nle rfl⟩ (ex_in) npmX12_in rfl (nle rfl) ⟨nle rfl, nle rfl⟩ dX12_lend_26 ?_
          rintro _ mz ⟨rfl, hz⟩
          subst mz
          rw [hz]
          refine go_c1 ?_
          refine gz_ne (by omega) (tgt := 34) dX12_lend_29 (by decide) (fun h29 => by exfalso; omega) (fun h29 => ?_)
          refine go_iconst (v := -1) (by decide) dX12_lend_32 ?_
          refine go_iret rfl ⟨Nat.zero_le _, Nat.zero_le _⟩ dX12_lend_33 ?_
          have e : lnS P (cp 105 (gI m 315) (gI m 316)) (nI i) (nI q) n = (-1, none) := by simp only [lnS, hh, ho, hz, i10, reduceIte, nI_ne (show i < 2 ^ 31 by omega) (show q < 2 ^ 31 by omega) he]
          rw [e]
          exact ⟨rfl, RfK.rf⟩
        · skip
          refine go_aload_n (q := 0) (i := 0) rfl rfl dX12_lend_0 ?_
          refine go_iload_n (q := 1) (i := 1) rfl rfl dX12_lend_1 ?_
          refine go_callV okmX12_isHolding lmX12_416 ⟨nle rfl, nle rfl⟩ hx.o ⟨by decide, rfl⟩ (ex_isHolding hx hm) npmX12_isHolding rfl (nle rfl) ⟨nle rfl, nle rfl⟩ dX12_lend_2 ?_
          rintro _ mz ⟨rfl, hz⟩
          subst mz
          rw [hh]
          refine go_c1 ?_
          refine gz_eq (by omega) (tgt := 32) dX12_lend_5 (by decide) (fun h5 => by exfalso; omega) (fun h5 => ?_)
          refine go_aload_n (q := 0) (i := 0) rfl rfl dX12_lend_8 ?_
          refine go_iload_n (q := 2) (i := 2) rfl rfl dX12_lend_9 ?_
          refine go_callV okmX12_isHolding lmX12_416 ⟨nle rfl, nle rfl⟩ hx.o ⟨by decide, rfl⟩ (ex_isHolding hx hm) npmX12_isHolding rfl (nle rfl) ⟨nle rfl, nle rfl⟩ dX12_lend_10 ?_
          rintro _ mz ⟨rfl, hz⟩
          subst mz
          rw [ho]
          refine go_c1 ?_
          refine gz_eq (by omega) (tgt := 32) dX12_lend_13 (by decide) (fun h13 => by exfalso; omega) (fun h13 => ?_)
          refine go_iload_n (q := 1) (i := 1) rfl rfl dX12_lend_16 ?_
          refine go_iload_n (q := 2) (i := 2) rfl rfl dX12_lend_17 ?_
          refine gn_eq (by omega) (by omega) (tgt := 32) dX12_lend_18 (by decide) (fun h18 => by exfalso; omega) (fun h18 => ?_)
          refine go_iload_n (q := 3) (i := 3) rfl rfl dX12_lend_21 ?_
          refine go_iconst (v := nI 1) (by decide) dX12_lend_22 ?_
          refine go_sipush (v := nI 999) (by decide) dX12_lend_23 ?_
          refine go_callS okmX12_in lmX12_361 ⟨nle rfl, nle rfl⟩ (ex_in) npmX12_in rfl (nle rfl) ⟨nle rfl, nle rfl⟩ dX12_lend_26 ?_
          rintro _ mz ⟨rfl, hz⟩
          subst mz
          rw [hz]
          refine go_c1 ?_
          refine gz_ne (by omega) (tgt := 34) dX12_lend_29 (by decide) (fun h29 => ?_) (fun h29 => by exfalso; omega)
          refine go_aload_n (q := 0) (i := 0) rfl rfl dX12_lend_34 ?_
          refine go_getR lf12_140 rfl hx.o hx.r58 dX12_lend_35 ?_
          refine go_bipush (v := nI 80) (by decide) dX12_lend_38 ?_
          refine go_iload_n (q := 1) (i := 1) rfl rfl dX12_lend_40 ?_
          refine gn_add dX12_lend_41 ?_
          refine go_iald (j := (80 + i)) hx.i58 (by omega) (by first | decide | omega) rfl dX12_lend_42 ?_
          rw [show gI m 315 (80 + i) = _ from now_R (by omega)]
          refine go_iload_n (q := 3) (i := 3) rfl rfl dX12_lend_43 ?_
          refine go_icmp_lt (tgt := 64) dX12_lend_44 (by decide) (fun h44 => ?_) (fun h44 => ?_)
          · skip
            refine go_bipush (v := -2) (by decide) dX12_lend_64 ?_
            refine go_iret rfl ⟨Nat.zero_le _, Nat.zero_le _⟩ dX12_lend_66 ?_
            have e : lnS P (cp 105 (gI m 315) (gI m 316)) (nI i) (nI q) (nI z) = (-2, none) := by
              simp only [lnS, hh, ho, hz, i10, reduceIte, nI_ne (show i < 2 ^ 31 by omega) (show q < 2 ^ 31 by omega) he, nI_clamp (show i < 2 ^ 31 by omega), nI_clamp (show q < 2 ^ 31 by omega)]
              rw [if_pos h44]
            rw [e]
            exact ⟨rfl, RfK.rf⟩
          · skip
            refine go_aload_n (q := 0) (i := 0) rfl rfl dX12_lend_47 ?_
            refine go_getR lf12_140 rfl hx.o hx.r58 dX12_lend_48 ?_
            refine go_bipush (v := nI 80) (by decide) dX12_lend_51 ?_
            refine go_iload_n (q := 2) (i := 2) rfl rfl dX12_lend_53 ?_
            refine gn_add dX12_lend_54 ?_
            refine go_iald (j := (80 + q)) hx.i58 (by omega) (by first | decide | omega) rfl dX12_lend_55 ?_
            rw [show gI m 315 (80 + q) = _ from now_R (by omega)]
            refine go_iload_n (q := 3) (i := 3) rfl rfl dX12_lend_56 ?_
            refine go_iadd dX12_lend_57 ?_
            refine go_sipush (v := nI 999) (by decide) dX12_lend_58 ?_
            refine go_icmp_le (tgt := 67) dX12_lend_61 (by decide) (fun h61 => ?_) (fun h61 => ?_)
            · skip
              refine go_aload_n (q := 0) (i := 0) rfl rfl dX12_lend_67 ?_
              refine go_callV okmX12_copies lmX12_413 ⟨nle rfl, nle rfl⟩ hx.o ⟨by decide, rfl⟩ (ex_copies hx hm) npmX12_copies rfl (nle rfl) ⟨nle rfl, nle rfl⟩ dX12_lend_68 ?_
              rintro _ m1 ⟨rfl, c1, e1, s1, l1, -⟩
              have hx := c1.wf hx
              have hm := c1.md hm
              refine go_c0 ?_
              refine go_aload_n (q := 0) (i := 0) rfl rfl dX12_lend_71 ?_
              refine go_getR lf12_143 rfl hx.o hx.r59 dX12_lend_72 ?_
              refine go_bipush (v := nI 80) (by decide) dX12_lend_75 ?_
              refine go_iload_n (q := 1) (i := 1) rfl rfl dX12_lend_77 ?_
              refine gn_add dX12_lend_78 ?_
              refine go_dup2 rfl rfl dX12_lend_79 ?_
              refine go_iald (j := (80 + i)) hx.i59 (by omega) (by first | decide | omega) rfl dX12_lend_80 ?_
              rw [e1]
              refine go_iload_n (q := 3) (i := 3) rfl rfl dX12_lend_81 ?_
              refine go_isub dX12_lend_82 ?_
              refine go_iast (j := (80 + i)) hx.i59 (by omega) (by first | decide | omega) rfl dX12_lend_83 ?_
              rw [e1]
              generalize hmmA : sI m1 316 _ = mA
              have cA : Mo m mA := c1.tr (Mh.of (by rw [← hmmA]; exact Ch.I (by omega))).1
              have emA : gI mA 316 = upd (cp 105 (gI m 315) (gI m 316)) (80 + i) ((cp 105 (gI m 315) (gI m 316)) (80 + i) - nI z) := by rw [← hmmA, gI_s]
              have hx := CX12 cA.1 hx0
              refine go_aload_n (q := 0) (i := 0) rfl rfl dX12_lend_84 ?_
              refine go_getR lf12_143 rfl hx.o hx.r59 dX12_lend_85 ?_
              refine go_bipush (v := nI 80) (by decide) dX12_lend_88 ?_
              refine go_iload_n (q := 2) (i := 2) rfl rfl dX12_lend_90 ?_
              refine gn_add dX12_lend_91 ?_
              refine go_dup2 rfl rfl dX12_lend_92 ?_
              refine go_iald (j := (80 + q)) hx.i59 (by omega) (by first | decide | omega) rfl dX12_lend_93 ?_
              rw [emA, upd_ne (by omega)]
              refine go_iload_n (q := 3) (i := 3) rfl rfl dX12_lend_94 ?_
              refine go_iadd dX12_lend_95 ?_
              refine go_iast (j := (80 + q)) hx.i59 (by omega) (by first | decide | omega) rfl dX12_lend_96 ?_
              rw [emA]
              generalize hmmB : sI mA 316 _ = mB
              have cB : Mo m mB := cA.tr (Mh.of (by rw [← hmmB]; exact Ch.I (by omega))).1
              have emB : gI mB 316 = upd (upd (cp 105 (gI m 315) (gI m 316)) (80 + i) ((cp 105 (gI m 315) (gI m 316)) (80 + i) - nI z)) (80 + q) ((cp 105 (gI m 315) (gI m 316)) (80 + q) + nI z) := by rw [← hmmB, gI_s]
              have hx := CX12 cB.1 hx0
              refine go_aload_n (q := 0) (i := 0) rfl rfl dX12_lend_97 ?_
              refine go_getR lf12_143 rfl hx.o hx.r59 dX12_lend_98 ?_
              refine go_bipush (v := nI 88) (by decide) dX12_lend_101 ?_
              refine go_iconst (v := nI 4) (by decide) dX12_lend_103 ?_
              refine go_iload_n (q := 1) (i := 1) rfl rfl dX12_lend_104 ?_
              refine gn_mul dX12_lend_105 ?_
              refine gn_add dX12_lend_106 ?_
              refine go_iload_n (q := 2) (i := 2) rfl rfl dX12_lend_107 ?_
              refine gn_add dX12_lend_108 ?_
              rw [show 88 + 4 * i + q = 88 + (i * 4 + q) by omega]
              refine go_dup2 rfl rfl dX12_lend_109 ?_
              refine go_iald (j := ((88 + (i * 4 + q)))) hx.i59 (by omega) (by first | decide | omega) rfl dX12_lend_110 ?_
              rw [emB, upd_ne (by omega), upd_ne (by omega)]
              refine go_iload_n (q := 3) (i := 3) rfl rfl dX12_lend_111 ?_
              refine go_iadd dX12_lend_112 ?_
              refine go_iast (j := ((88 + (i * 4 + q)))) hx.i59 (by omega) (by first | decide | omega) rfl dX12_lend_113 ?_
              rw [emB]
              generalize hmmC : sI mB 316 _ = mC
              have cC : Mo m mC := cB.tr (Mh.of (by rw [← hmmC]; exact Ch.I (by omega))).1
              have emC : gI mC 316 = upd (upd (upd (cp 105 (gI m 315) (gI m 316)) (80 + i) ((cp 105 (gI m 315) (gI m 316)) (80 + i) - nI z)) (80 + q) ((cp 105 (gI m 315) (gI m 316)) (80 + q) + nI z)) (88 + (i * 4 + q)) ((cp 105 (gI m 315) (gI m 316)) (88 + (i * 4 + q)) + nI z) := by rw [← hmmC, gI_s]
              have hx := CX12 cC.1 hx0
              refine go_aload_n (q := 0) (i := 0) rfl rfl dX12_lend_114 ?_
              refine go_callV okmX12_records lmX12_435 ⟨nle rfl, nle rfl⟩ hx.o ⟨by decide, rfl⟩ (ex_records hx hu30 ((cC.2 63 (by decide) (by decide) (by decide)).trans hu1)) npmX12_records rfl (nle rfl) ⟨nle rfl, nle rfl⟩ dX12_lend_115 ?_
              rintro _ mR ⟨rfl, cR1, cR2, cR3, cR4⟩
              have hD : DnM m mR (some (lnR (cp 105 (gI m 315) (gI m 316)) i q (nI z))) := DnM.of cC cR1 cR2 cR3 cR4 (fun q hq => by rw [emC]; rfl)
              have hx := CX12 cR1 hx
              refine go_c0 ?_
              refine go_aload_n (q := 0) (i := 0) rfl rfl dX12_lend_118 ?_
              refine go_getR lf12_140 rfl hx.o hx.r58 dX12_lend_119 ?_
              refine go_bipush (v := nI 80) (by decide) dX12_lend_122 ?_
              refine go_iload_n (q := 1) (i := 1) rfl rfl dX12_lend_124 ?_
              refine gn_add dX12_lend_125 ?_
              refine go_iald (j := (80 + i)) hx.i58 (by omega) (by first | decide | omega) rfl dX12_lend_126 ?_
              rw [cR3 (80 + i) (by omega), emC, upd_ne (by omega), upd_ne (by omega), upd_eq]
              refine go_iret rfl ⟨Nat.zero_le _, Nat.zero_le _⟩ dX12_lend_127 ?_
              have e : lnS P (cp 105 (gI m 315) (gI m 316)) (nI i) (nI q) (nI z) = ((cp 105 (gI m 315) (gI m 316)) (80 + i) - nI z, some (lnR (cp 105 (gI m 315) (gI m 316)) i q (nI z))) := by
                simp only [lnS, hh, ho, hz, i10, reduceIte, nI_ne (show i < 2 ^ 31 by omega) (show q < 2 ^ 31 by omega) he, nI_clamp (show i < 2 ^ 31 by omega), nI_clamp (show q < 2 ^ 31 by omega)]
                rw [if_neg h44, if_pos h61]
              rw [e]
              exact ⟨rfl, hD⟩
            · skip
              refine go_bipush (v := -2) (by decide) dX12_lend_64 ?_
              refine go_iret rfl ⟨Nat.zero_le _, Nat.zero_le _⟩ dX12_lend_66 ?_
              have e : lnS P (cp 105 (gI m 315) (gI m 316)) (nI i) (nI q) (nI z) = (-2, none) := by
                simp only [lnS, hh, ho, hz, i10, reduceIte, nI_ne (show i < 2 ^ 31 by omega) (show q < 2 ^ 31 by omega) he, nI_clamp (show i < 2 ^ 31 by omega), nI_clamp (show q < 2 ^ 31 by omega)]
                rw [if_neg h44, if_neg h61]
              rw [e]
              exact ⟨rfl, RfK.rf⟩
