theorem in_mi {i : Int32} : (iOk i ∧ inS i (-1) (nI 2) = nI 1) ∨ (¬ iOk i ∧ inS i (-1) (nI 2) = nI 0) := by
  unfold inS
  by_cases h1 : i < -1
  · right
    rw [if_pos h1]
    refine ⟨fun z => ?_, rfl⟩
    rcases z with rfl | ⟨j, hj, rfl⟩
    · exact absurd h1 (by decide)
    · rw [Int32.lt_iff_toInt_lt, nI_toInt (by omega), show (-1 : Int32).toInt = -1 from by decide] at h1; omega
  · rw [if_neg h1]
    by_cases h2 : nI 2 < i
    · right
      rw [if_pos h2]
      refine ⟨fun z => ?_, rfl⟩
      rcases z with rfl | ⟨j, hj, rfl⟩
      · exact absurd h2 (by decide)
      · rw [nI_ltI (by omega) (by omega)] at h2; omega
    · left
      rw [if_neg h2]
      refine ⟨i_ok h1 ?_, rfl⟩
      rw [Int32.lt_iff_toInt_lt, nI_toInt (by decide)] at h2 ⊢
      omega
theorem iOk_in {i : Int32} (h : iOk i) : inS i (-1) (nI 2) = nI 1 := by
  rcases in_mi (i := i) with ⟨-, k⟩ | ⟨k, -⟩
  · exact k
  · exact absurd h k
theorem iOk_no {i : Int32} (h : ¬ iOk i) : inS i (-1) (nI 2) = nI 0 := by
  rcases in_mi (i := i) with ⟨k, -⟩ | ⟨-, k⟩
  · exact absurd k h
  · exact k
theorem RfK.fd {m m' : Me} (h : Ch FdA m m') : RfK m m' := RfK.c2 (h.mn (fun x z => by unfold FdA at z; omega)) (fun t => t.of (h.at (by unfold FdA; omega)) (by rw [h.at (x := 274) (by unfold FdA; omega)]) (h.at (by unfold FdA; omega)))
set_option maxRecDepth 100000 in
set_option maxHeartbeats 8000000 in
theorem ex_watch {m : Me} {P : Pl} {lv : Nat} (hx : Wf12 m.1 (gR m)) (hm : MdC m P lv) (ok : PlOk P) {x y th i : Int32} : Ev mX12_watch [.ref 274, .int x, .int y, .int th, .int i] m (fun o m' => (∃ v, o = some (.int v) ∧ WaQ P (cp 105 (gI m 315) (gI m 316)) x y th i v) ∧ RfK m m') := by
  refine ⟨plmX12_watch, nle rfl, ?_⟩
  have hw8 := ok.1
  have hr5 := ok.2.1
  have hlv := hm.lv
  have hh4 := ok.2.2.1
  have hu6 := ok.2.2.2.1
  rcases tc_c ok x with ⟨htx, hix, hnx⟩ | ⟨f, hf4, hlf, rfl, htx, hix⟩
  · skip
    refine go_aload_n (q := 0) (i := 0) rfl rfl dX12_watch_0 ?_
    refine go_iload_n (q := 1) (i := 1) rfl rfl dX12_watch_1 ?_
    refine go_callV okmX12_isAt lmX12_462 ⟨nle rfl, nle rfl⟩ hx.o ⟨by decide, rfl⟩ (ex_isAt hx hm) npmX12_isAt rfl (nle rfl) ⟨nle rfl, nle rfl⟩ dX12_watch_2 ?_
    rintro _ mz ⟨rfl, hz⟩
    subst mz
    rw [hix]
    refine go_c1 ?_
    refine gz_eq (by omega) (tgt := 38) dX12_watch_5 (by decide) (fun h5 => ?_) (fun h5 => by exfalso; omega)
    refine go_iconst (v := -1) (by decide) dX12_watch_38 ?_
    refine go_iret rfl ⟨Nat.zero_le _, Nat.zero_le _⟩ dX12_watch_39 ?_
    exact ⟨⟨_, rfl, Or.inr ⟨fun f' g' t' z => hnx f' z.1 z.2.2.1 z.2.2.2.2.1, rfl⟩⟩, RfK.rf⟩
  · skip
    have hnf := nm_lt hf4
    rcases tc_c ok y with ⟨hty, hiy, hny⟩ | ⟨g, hg4, hlg, rfl, hty, hiy⟩
    · skip
      refine go_aload_n (q := 0) (i := 0) rfl rfl dX12_watch_0 ?_
      refine go_iload_n (q := 1) (i := 1) rfl rfl dX12_watch_1 ?_
      refine go_callV okmX12_isAt lmX12_462 ⟨nle rfl, nle rfl⟩ hx.o ⟨by decide, rfl⟩ (ex_isAt hx hm) npmX12_isAt rfl (nle rfl) ⟨nle rfl, nle rfl⟩ dX12_watch_2 ?_
      rintro _ mz ⟨rfl, hz⟩
      subst mz
      rw [hix]
      refine go_c1 ?_
      refine gz_eq (by omega) (tgt := 38) dX12_watch_5 (by decide) (fun h5 => by exfalso; omega) (fun h5 => ?_)
      refine go_aload_n (q := 0) (i := 0) rfl rfl dX12_watch_8 ?_
      refine go_iload_n (q := 2) (i := 2) rfl rfl dX12_watch_9 ?_
      refine go_callV okmX12_isAt lmX12_462 ⟨nle rfl, nle rfl⟩ hx.o ⟨by decide, rfl⟩ (ex_isAt hx hm) npmX12_isAt rfl (nle rfl) ⟨nle rfl, nle rfl⟩ dX12_watch_10 ?_
      rintro _ mz ⟨rfl, hz⟩
      subst mz
      rw [hiy]
      refine go_c1 ?_
      refine gz_eq (by omega) (tgt := 38) dX12_watch_13 (by decide) (fun h13 => ?_) (fun h13 => by exfalso; omega)
      refine go_iconst (v := -1) (by decide) dX12_watch_38 ?_
      refine go_iret rfl ⟨Nat.zero_le _, Nat.zero_le _⟩ dX12_watch_39 ?_
      exact ⟨⟨_, rfl, Or.inr ⟨fun f' g' t' z => hny g' z.2.1 z.2.2.2.1 z.2.2.2.2.2.1, rfl⟩⟩, RfK.rf⟩
    · skip
      have hng := nm_lt hg4
      by_cases hfg : g = f
      · skip
        subst hfg
        refine go_aload_n (q := 0) (i := 0) rfl rfl dX12_watch_0 ?_
        refine go_iload_n (q := 1) (i := 1) rfl rfl dX12_watch_1 ?_
        refine go_callV okmX12_isAt lmX12_462 ⟨nle rfl, nle rfl⟩ hx.o ⟨by decide, rfl⟩ (ex_isAt hx hm) npmX12_isAt rfl (nle rfl) ⟨nle rfl, nle rfl⟩ dX12_watch_2 ?_
        rintro _ mz ⟨rfl, hz⟩
        subst mz
        rw [hix]
        refine go_c1 ?_
        refine gz_eq (by omega) (tgt := 38) dX12_watch_5 (by decide) (fun h5 => by exfalso; omega) (fun h5 => ?_)
        refine go_aload_n (q := 0) (i := 0) rfl rfl dX12_watch_8 ?_
        refine go_iload_n (q := 2) (i := 2) rfl rfl dX12_watch_9 ?_
        refine go_callV okmX12_isAt lmX12_462 ⟨nle rfl, nle rfl⟩ hx.o ⟨by decide, rfl⟩ (ex_isAt hx hm) npmX12_isAt rfl (nle rfl) ⟨nle rfl, nle rfl⟩ dX12_watch_10 ?_
        rintro _ mz ⟨rfl, hz⟩
        subst mz
        rw [hix]
        refine go_c1 ?_
        refine gz_eq (by omega) (tgt := 38) dX12_watch_13 (by decide) (fun h13 => by exfalso; omega) (fun h13 => ?_)
        refine go_iload_n (q := 1) (i := 1) rfl rfl dX12_watch_16 ?_
        refine go_iload_n (q := 2) (i := 2) rfl rfl dX12_watch_17 ?_
        refine gn_eq (by omega) (by omega) (tgt := 38) dX12_watch_18 (by decide) (fun h18 => ?_) (fun h18 => by exfalso; omega)
        refine go_iconst (v := -1) (by decide) dX12_watch_38 ?_
        refine go_iret rfl ⟨Nat.zero_le _, Nat.zero_le _⟩ dX12_watch_39 ?_
        exact ⟨⟨_, rfl, Or.inr ⟨fun f' g' t' z => by obtain ⟨b1, b2, b3, b4, b5, b6, b7, -, -, -⟩ := z; exact b7 (nm_inj ((nI_eq (by have := nm_lt b2; omega) (by have := nm_lt b1; omega)).mp (b6.symm.trans b5))), rfl⟩⟩, RfK.rf⟩
      · skip
        rcases in_c th (N := 99) (by decide) with hth | ⟨t, ht, rfl, hth⟩
        · skip
          refine go_aload_n (q := 0) (i := 0) rfl rfl dX12_watch_0 ?_
          refine go_iload_n (q := 1) (i := 1) rfl rfl dX12_watch_1 ?_
          refine go_callV okmX12_isAt lmX12_462 ⟨nle rfl, nle rfl⟩ hx.o ⟨by decide, rfl⟩ (ex_isAt hx hm) npmX12_isAt rfl (nle rfl) ⟨nle rfl, nle rfl⟩ dX12_watch_2 ?_
          rintro _ mz ⟨rfl, hz⟩
          subst mz
          rw [hix]
          refine go_c1 ?_
          refine gz_eq (by omega) (tgt := 38) dX12_watch_5 (by decide) (fun h5 => by exfalso; omega) (fun h5 => ?_)
          refine go_aload_n (q := 0) (i := 0) rfl rfl dX12_watch_8 ?_
          refine go_iload_n (q := 2) (i := 2) rfl rfl dX12_watch_9 ?_
          refine go_callV okmX12_isAt lmX12_462 ⟨nle rfl, nle rfl⟩ hx.o ⟨by decide, rfl⟩ (ex_isAt hx hm) npmX12_isAt rfl (nle rfl) ⟨nle rfl, nle rfl⟩ dX12_watch_10 ?_
          rintro _ mz ⟨rfl, hz⟩
          subst mz
          rw [hiy]
          refine go_c1 ?_
          refine gz_eq (by omega) (tgt := 38) dX12_watch_13 (by decide) (fun h13 => by exfalso; omega) (fun h13 => ?_)
          refine go_iload_n (q := 1) (i := 1) rfl rfl dX12_watch_16 ?_
          refine go_iload_n (q := 2) (i := 2) rfl rfl dX12_watch_17 ?_
          refine gn_eq (by omega) (by omega) (tgt := 38) dX12_watch_18 (by decide) (fun h18 => by exfalso; exact hfg (nm_inj h18).symm) (fun h18 => ?_)
          refine go_iload_n (q := 3) (i := 3) rfl rfl dX12_watch_21 ?_
          refine go_callS okmX12_isThick lmX12_447 ⟨nle rfl, nle rfl⟩ (ex_isThick) npmX12_isThick rfl (nle rfl) ⟨nle rfl, nle rfl⟩ dX12_watch_22 ?_
          rintro _ mz ⟨rfl, hz⟩
          subst mz
          rw [hth]
          refine go_c1 ?_
          refine gz_eq (by omega) (tgt := 38) dX12_watch_25 (by decide) (fun h25 => ?_) (fun h25 => by exfalso; omega)
          refine go_iconst (v := -1) (by decide) dX12_watch_38 ?_
          refine go_iret rfl ⟨Nat.zero_le _, Nat.zero_le _⟩ dX12_watch_39 ?_
          exact ⟨⟨_, rfl, Or.inr ⟨fun f' g' t' z => by have q := z.2.2.2.2.2.2.2.2.1; have p := z.2.2.2.2.2.2.2.1; rw [q] at hth; unfold inS at hth; rw [if_neg (by rw [nI_ltI (by omega) (by omega)]; omega), if_neg (by rw [nI_ltI (by omega) (by omega)]; omega)] at hth; exact absurd hth (by decide), rfl⟩⟩, RfK.rf⟩
        · skip
          by_cases hio : iOk i
          · skip
            have hVd : Vd P (nI (nm f)) (nI (nm g)) (nI t) i f g t := ⟨hf4, hg4, hlf, hlg, rfl, rfl, hfg, ht, rfl, hio⟩
            have hio0 := hio
            rcases hio with rfl | ⟨j, hj2, rfl⟩
            · skip
              refine go_aload_n (q := 0) (i := 0) rfl rfl dX12_watch_0 ?_
              refine go_iload_n (q := 1) (i := 1) rfl rfl dX12_watch_1 ?_
              refine go_callV okmX12_isAt lmX12_462 ⟨nle rfl, nle rfl⟩ hx.o ⟨by decide, rfl⟩ (ex_isAt hx hm) npmX12_isAt rfl (nle rfl) ⟨nle rfl, nle rfl⟩ dX12_watch_2 ?_
              rintro _ mz ⟨rfl, hz⟩
              subst mz
              rw [hix]
              refine go_c1 ?_
              refine gz_eq (by omega) (tgt := 38) dX12_watch_5 (by decide) (fun h5 => by exfalso; omega) (fun h5 => ?_)
              refine go_aload_n (q := 0) (i := 0) rfl rfl dX12_watch_8 ?_
              refine go_iload_n (q := 2) (i := 2) rfl rfl dX12_watch_9 ?_
              refine go_callV okmX12_isAt lmX12_462 ⟨nle rfl, nle rfl⟩ hx.o ⟨by decide, rfl⟩ (ex_isAt hx hm) npmX12_isAt rfl (nle rfl) ⟨nle rfl, nle rfl⟩ dX12_watch_10 ?_
              rintro _ mz ⟨rfl, hz⟩
              subst mz
              rw [hiy]
              refine go_c1 ?_
              refine gz_eq (by omega) (tgt := 38) dX12_watch_13 (by decide) (fun h13 => by exfalso; omega) (fun h13 => ?_)
              refine go_iload_n (q := 1) (i := 1) rfl rfl dX12_watch_16 ?_
              refine go_iload_n (q := 2) (i := 2) rfl rfl dX12_watch_17 ?_
              refine gn_eq (by omega) (by omega) (tgt := 38) dX12_watch_18 (by decide) (fun h18 => by exfalso; exact hfg (nm_inj h18).symm) (fun h18 => ?_)
              refine go_iload_n (q := 3) (i := 3) rfl rfl dX12_watch_21 ?_
              refine go_callS okmX12_isThick lmX12_447 ⟨nle rfl, nle rfl⟩ (ex_isThick) npmX12_isThick rfl (nle rfl) ⟨nle rfl, nle rfl⟩ dX12_watch_22 ?_
              rintro _ mz ⟨rfl, hz⟩
              subst mz
              rw [hth]
              refine go_c1 ?_
              refine gz_eq (by omega) (tgt := 38) dX12_watch_25 (by decide) (fun h25 => by exfalso; omega) (fun h25 => ?_)
              refine go_iload (i := 4) rfl dX12_watch_28 ?_
              refine go_iconst (v := -1) (by decide) dX12_watch_30 ?_
              refine go_iconst (v := nI 2) (by decide) dX12_watch_31 ?_
              refine go_callS okmX12_in lmX12_361 ⟨nle rfl, nle rfl⟩ (ex_in) npmX12_in rfl (nle rfl) ⟨nle rfl, nle rfl⟩ dX12_watch_32 ?_
              rintro _ mz ⟨rfl, hz⟩
              subst mz
              rw [iOk_in hio0]
              refine go_c1 ?_
              refine gz_ne (by omega) (tgt := 40) dX12_watch_35 (by decide) (fun h35 => ?_) (fun h35 => by exfalso; omega)
              refine go_aload_n (q := 0) (i := 0) rfl rfl dX12_watch_40 ?_
              refine go_callV okmX12_copies lmX12_413 ⟨nle rfl, nle rfl⟩ hx.o ⟨by decide, rfl⟩ (ex_copies hx hm) npmX12_copies rfl (nle rfl) ⟨nle rfl, nle rfl⟩ dX12_watch_41 ?_
              rintro _ m1 ⟨rfl, c1, e1, s1, l1, -⟩
              have hx := c1.wf hx
              have hm := c1.md hm
              refine go_c0 ?_
              refine go_iconst (v := nI 0) (by decide) dX12_watch_44 ?_
              refine go_istore (i := 5) dX12_watch_45 (nle rfl) (nle rfl) ?_
              refine go_L (L' := [some (.ref 274), some (.int (nI ((nm f)))), some (.int (nI ((nm g)))), some (.int (nI t)), some (.int ((-1))), some (.int (nI 0))]) rfl ?_
              refine go_iload (i := 5) rfl dX12_watch_47 ?_
              refine go_iconst (v := nI 3) (by decide) dX12_watch_49 ?_
              refine gn_gt (by omega) (by omega) (tgt := 104) dX12_watch_50 (by decide) (fun h50 => by exfalso; omega) (fun h50 => ?_)
              refine go_aload_n (q := 0) (i := 0) rfl rfl dX12_watch_53 ?_
              refine go_iload_n (q := 1) (i := 1) rfl rfl dX12_watch_54 ?_
              refine go_iload_n (q := 2) (i := 2) rfl rfl dX12_watch_55 ?_
              refine go_iload_n (q := 3) (i := 3) rfl rfl dX12_watch_56 ?_
              refine go_iload (i := 5) rfl dX12_watch_57 ?_
              refine go_callV okmX12_findsWatch lmX12_472 ⟨nle rfl, nle rfl⟩ hx.o ⟨by decide, rfl⟩ (ex_finds0 hx hm ok hf4 hg4 hlf hlg hfg ht) npmX12_findsWatch rfl (nle rfl) ⟨nle rfl, nle rfl⟩ dX12_watch_59 ?_
              rintro _ m2 ⟨c2, ⟨rfl, h0⟩ | ⟨rfl, n0⟩⟩
              · skip
                have d2 := c2
                rw [e1] at h0
                have hx := CX12 c2 hx
                have hm := mdF c2 hm
                refine go_c1 ?_
                refine gz_ne (by omega) (tgt := 68) dX12_watch_62 (by decide) (fun h62 => ?_) (fun h62 => by exfalso; omega)
                refine go_iload (i := 4) rfl dX12_watch_68 ?_
                refine go_iconst (v := -1) (by decide) dX12_watch_70 ?_
                refine go_icmp_ne (tgt := 79) dX12_watch_71 (by decide) (fun h71 => by exfalso; exact h71 rfl) (fun h71 => ?_)
                refine go_iload (i := 5) rfl dX12_watch_74 ?_
                refine go_goto (tgt := 97) dX12_watch_76 (by decide) ?_
                refine go_iret rfl ⟨Nat.zero_le _, Nat.zero_le _⟩ dX12_watch_97 ?_
                refine ⟨⟨_, rfl, Or.inl ⟨f, g, t, hVd, Or.inl ⟨h0, fun _ => 0, ?_⟩⟩⟩, (RfK.of c1).tr (RfK.fd d2)⟩
                exact pck_m.symm
              · skip
                have d2 := c2
                have q0 : gI m2 316 = gI m1 316 := c2.at (by unfold FdA; omega)
                rw [e1] at n0
                have hx := CX12 c2 hx
                have hm := mdF c2 hm
                refine go_c1 ?_
                refine gz_ne (by omega) (tgt := 68) dX12_watch_62 (by decide) (fun h62 => by exfalso; omega) (fun h62 => ?_)
                refine go_goto (tgt := 98) dX12_watch_65 (by decide) ?_
                refine gn_inc (i := 5) (a := 0) (q := 1) rfl dX12_watch_98 (nle rfl) rfl ?_
                refine go_goto (tgt := 47) dX12_watch_101 (by decide) ?_
                refine go_L (L' := [some (.ref 274), some (.int (nI ((nm f)))), some (.int (nI ((nm g)))), some (.int (nI t)), some (.int ((-1))), some (.int (nI (0 + 1)))]) rfl ?_
                refine go_iload (i := 5) rfl dX12_watch_47 ?_
                refine go_iconst (v := nI 3) (by decide) dX12_watch_49 ?_
                refine gn_gt (by omega) (by omega) (tgt := 104) dX12_watch_50 (by decide) (fun h50 => by exfalso; omega) (fun h50 => ?_)
                refine go_aload_n (q := 0) (i := 0) rfl rfl dX12_watch_53 ?_
                refine go_iload_n (q := 1) (i := 1) rfl rfl dX12_watch_54 ?_
                refine go_iload_n (q := 2) (i := 2) rfl rfl dX12_watch_55 ?_
                refine go_iload_n (q := 3) (i := 3) rfl rfl dX12_watch_56 ?_
                refine go_iload (i := 5) rfl dX12_watch_57 ?_
                refine go_callV okmX12_findsWatch lmX12_472 ⟨nle rfl, nle rfl⟩ hx.o ⟨by decide, rfl⟩ (ex_finds1 hx hm ok hf4 hg4 hlf hlg hfg ht) npmX12_findsWatch rfl (nle rfl) ⟨nle rfl, nle rfl⟩ dX12_watch_59 ?_
                rintro _ m3 ⟨c3, ⟨rfl, fa, h1, ea⟩ | ⟨rfl, n1⟩⟩
                · skip
                  have d3 := d2.tr c3
                  rw [q0, e1] at h1
                  have hx := CX12 c3 hx
                  have hm := mdF c3 hm
                  refine go_c1 ?_
                  refine gz_ne (by omega) (tgt := 68) dX12_watch_62 (by decide) (fun h62 => ?_) (fun h62 => by exfalso; omega)
                  refine go_iload (i := 4) rfl dX12_watch_68 ?_
                  refine go_iconst (v := -1) (by decide) dX12_watch_70 ?_
                  refine go_icmp_ne (tgt := 79) dX12_watch_71 (by decide) (fun h71 => by exfalso; exact h71 rfl) (fun h71 => ?_)
                  refine go_iload (i := 5) rfl dX12_watch_74 ?_
                  refine go_goto (tgt := 97) dX12_watch_76 (by decide) ?_
                  refine go_iret rfl ⟨Nat.zero_le _, Nat.zero_le _⟩ dX12_watch_97 ?_
                  refine ⟨⟨_, rfl, Or.inl ⟨f, g, t, hVd, Or.inr (Or.inl ⟨n0, fun _ => fa, h1, ?_⟩)⟩⟩, (RfK.of c1).tr (RfK.fd d3)⟩
                  exact pck_m.symm
                · skip
                  have d3 := d2.tr c3
                  have q1 : gI m3 316 = gI m1 316 := (c3.at (by unfold FdA; omega)).trans q0
                  rw [q0, e1] at n1
                  have hx := CX12 c3 hx
                  have hm := mdF c3 hm
                  refine go_c1 ?_
                  refine gz_ne (by omega) (tgt := 68) dX12_watch_62 (by decide) (fun h62 => by exfalso; omega) (fun h62 => ?_)
                  refine go_goto (tgt := 98) dX12_watch_65 (by decide) ?_
                  refine gn_inc (i := 5) (a := 0 + 1) (q := 1) rfl dX12_watch_98 (nle rfl) rfl ?_
                  refine go_goto (tgt := 47) dX12_watch_101 (by decide) ?_
                  refine go_L (L' := [some (.ref 274), some (.int (nI ((nm f)))), some (.int (nI ((nm g)))), some (.int (nI t)), some (.int ((-1))), some (.int (nI ((0 + 1) + 1)))]) rfl ?_
                  refine go_iload (i := 5) rfl dX12_watch_47 ?_
                  refine go_iconst (v := nI 3) (by decide) dX12_watch_49 ?_
                  refine gn_gt (by omega) (by omega) (tgt := 104) dX12_watch_50 (by decide) (fun h50 => by exfalso; omega) (fun h50 => ?_)
                  refine go_aload_n (q := 0) (i := 0) rfl rfl dX12_watch_53 ?_
                  refine go_iload_n (q := 1) (i := 1) rfl rfl dX12_watch_54 ?_
                  refine go_iload_n (q := 2) (i := 2) rfl rfl dX12_watch_55 ?_
                  refine go_iload_n (q := 3) (i := 3) rfl rfl dX12_watch_56 ?_
                  refine go_iload (i := 5) rfl dX12_watch_57 ?_
                  refine go_callV okmX12_findsWatch lmX12_472 ⟨nle rfl, nle rfl⟩ hx.o ⟨by decide, rfl⟩ (ex_finds2 hx hm ok hf4 hg4 hlf hlg hfg ht) npmX12_findsWatch rfl (nle rfl) ⟨nle rfl, nle rfl⟩ dX12_watch_59 ?_
                  rintro _ m4 ⟨c4, ⟨rfl, fa, fb, h2, ea, eb⟩ | ⟨rfl, n2⟩⟩
                  · skip
                    have d4 := d3.tr c4
                    rw [q1, e1] at h2
                    have hx := CX12 c4 hx
                    have hm := mdF c4 hm
                    refine go_c1 ?_
                    refine gz_ne (by omega) (tgt := 68) dX12_watch_62 (by decide) (fun h62 => ?_) (fun h62 => by exfalso; omega)
                    refine go_iload (i := 4) rfl dX12_watch_68 ?_
                    refine go_iconst (v := -1) (by decide) dX12_watch_70 ?_
                    refine go_icmp_ne (tgt := 79) dX12_watch_71 (by decide) (fun h71 => by exfalso; exact h71 rfl) (fun h71 => ?_)
                    refine go_iload (i := 5) rfl dX12_watch_74 ?_
                    refine go_goto (tgt := 97) dX12_watch_76 (by decide) ?_
                    refine go_iret rfl ⟨Nat.zero_le _, Nat.zero_le _⟩ dX12_watch_97 ?_
                    refine ⟨⟨_, rfl, Or.inl ⟨f, g, t, hVd, Or.inr (Or.inr (Or.inl ⟨n0, n1, fun k => if k = 0 then fa else fb, h2, ?_⟩))⟩⟩, (RfK.of c1).tr (RfK.fd d4)⟩
                    exact pck_m.symm
                  · skip
                    have d4 := d3.tr c4
                    have q2 : gI m4 316 = gI m1 316 := (c4.at (by unfold FdA; omega)).trans q1
                    rw [q1, e1] at n2
                    have hx := CX12 c4 hx
                    have hm := mdF c4 hm
                    refine go_c1 ?_
                    refine gz_ne (by omega) (tgt := 68) dX12_watch_62 (by decide) (fun h62 => by exfalso; omega) (fun h62 => ?_)
                    refine go_goto (tgt := 98) dX12_watch_65 (by decide) ?_
                    refine gn_inc (i := 5) (a := (0 + 1) + 1) (q := 1) rfl dX12_watch_98 (nle rfl) rfl ?_
                    refine go_goto (tgt := 47) dX12_watch_101 (by decide) ?_
                    refine go_L (L' := [some (.ref 274), some (.int (nI ((nm f)))), some (.int (nI ((nm g)))), some (.int (nI t)), some (.int ((-1))), some (.int (nI (((0 + 1) + 1) + 1)))]) rfl ?_
                    refine go_iload (i := 5) rfl dX12_watch_47 ?_
                    refine go_iconst (v := nI 3) (by decide) dX12_watch_49 ?_
                    refine gn_gt (by omega) (by omega) (tgt := 104) dX12_watch_50 (by decide) (fun h50 => by exfalso; omega) (fun h50 => ?_)
                    refine go_aload_n (q := 0) (i := 0) rfl rfl dX12_watch_53 ?_
                    refine go_iload_n (q := 1) (i := 1) rfl rfl dX12_watch_54 ?_
                    refine go_iload_n (q := 2) (i := 2) rfl rfl dX12_watch_55 ?_
                    refine go_iload_n (q := 3) (i := 3) rfl rfl dX12_watch_56 ?_
                    refine go_iload (i := 5) rfl dX12_watch_57 ?_
                    refine go_callV okmX12_findsWatch lmX12_472 ⟨nle rfl, nle rfl⟩ hx.o ⟨by decide, rfl⟩ (ex_finds3 hx hm ok hf4 hg4 hlf hlg hfg ht) npmX12_findsWatch rfl (nle rfl) ⟨nle rfl, nle rfl⟩ dX12_watch_59 ?_
                    rintro _ m5 ⟨c5, ⟨rfl, fa, fb, fd, h3, ea, eb, ed⟩ | ⟨rfl, n3⟩⟩
                    · skip
                      have d5 := d4.tr c5
                      rw [q2, e1] at h3
                      have hx := CX12 c5 hx
                      have hm := mdF c5 hm
                      refine go_c1 ?_
                      refine gz_ne (by omega) (tgt := 68) dX12_watch_62 (by decide) (fun h62 => ?_) (fun h62 => by exfalso; omega)
                      refine go_iload (i := 4) rfl dX12_watch_68 ?_
                      refine go_iconst (v := -1) (by decide) dX12_watch_70 ?_
                      refine go_icmp_ne (tgt := 79) dX12_watch_71 (by decide) (fun h71 => by exfalso; exact h71 rfl) (fun h71 => ?_)
                      refine go_iload (i := 5) rfl dX12_watch_74 ?_
                      refine go_goto (tgt := 97) dX12_watch_76 (by decide) ?_
                      refine go_iret rfl ⟨Nat.zero_le _, Nat.zero_le _⟩ dX12_watch_97 ?_
                      refine ⟨⟨_, rfl, Or.inl ⟨f, g, t, hVd, Or.inr (Or.inr (Or.inr (Or.inl ⟨n0, n1, n2, fun k => if k = 0 then fa else if k = 1 then fb else fd, h3, ?_⟩)))⟩⟩, (RfK.of c1).tr (RfK.fd d5)⟩
                      exact pck_m.symm
                    · skip
                      have d5 := d4.tr c5
                      have q3 : gI m5 316 = gI m1 316 := (c5.at (by unfold FdA; omega)).trans q2
                      rw [q2, e1] at n3
                      have hx := CX12 c5 hx
                      have hm := mdF c5 hm
                      refine go_c1 ?_
                      refine gz_ne (by omega) (tgt := 68) dX12_watch_62 (by decide) (fun h62 => by exfalso; omega) (fun h62 => ?_)
                      refine go_goto (tgt := 98) dX12_watch_65 (by decide) ?_
                      refine gn_inc (i := 5) (a := ((0 + 1) + 1) + 1) (q := 1) rfl dX12_watch_98 (nle rfl) rfl ?_
                      refine go_goto (tgt := 47) dX12_watch_101 (by decide) ?_
                      refine go_L (L' := [some (.ref 274), some (.int (nI ((nm f)))), some (.int (nI ((nm g)))), some (.int (nI t)), some (.int ((-1))), some (.int (nI ((((0 + 1) + 1) + 1) + 1)))]) rfl ?_
                      refine go_iload (i := 5) rfl dX12_watch_47 ?_
                      refine go_iconst (v := nI 3) (by decide) dX12_watch_49 ?_
                      refine gn_gt (by omega) (by omega) (tgt := 104) dX12_watch_50 (by decide) (fun h50 => ?_) (fun h50 => by exfalso; omega)
                      refine go_bipush (v := -2) (by decide) dX12_watch_104 ?_
                      refine go_iret rfl ⟨Nat.zero_le _, Nat.zero_le _⟩ dX12_watch_106 ?_
                      exact ⟨⟨_, rfl, Or.inl ⟨f, g, t, hVd, Or.inr (Or.inr (Or.inr (Or.inr ⟨n0, n1, n2, n3, rfl⟩)))⟩⟩, (RfK.of c1).tr (RfK.fd d5)⟩
            · skip
              rcases (show j = 0 ∨ j = 1 ∨ j = 2 by omega) with rfl | rfl | rfl
              · skip
                refine go_aload_n (q := 0) (i := 0) rfl rfl dX12_watch_0 ?_
                refine go_iload_n (q := 1) (i := 1) rfl rfl dX12_watch_1 ?_
                refine go_callV okmX12_isAt lmX12_462 ⟨nle rfl, nle rfl⟩ hx.o ⟨by decide, rfl⟩ (ex_isAt hx hm) npmX12_isAt rfl (nle rfl) ⟨nle rfl, nle rfl⟩ dX12_watch_2 ?_
                rintro _ mz ⟨rfl, hz⟩
                subst mz
                rw [hix]
                refine go_c1 ?_
                refine gz_eq (by omega) (tgt := 38) dX12_watch_5 (by decide) (fun h5 => by exfalso; omega) (fun h5 => ?_)
                refine go_aload_n (q := 0) (i := 0) rfl rfl dX12_watch_8 ?_
                refine go_iload_n (q := 2) (i := 2) rfl rfl dX12_watch_9 ?_
                refine go_callV okmX12_isAt lmX12_462 ⟨nle rfl, nle rfl⟩ hx.o ⟨by decide, rfl⟩ (ex_isAt hx hm) npmX12_isAt rfl (nle rfl) ⟨nle rfl, nle rfl⟩ dX12_watch_10 ?_
                rintro _ mz ⟨rfl, hz⟩
                subst mz
                rw [hiy]
                refine go_c1 ?_
                refine gz_eq (by omega) (tgt := 38) dX12_watch_13 (by decide) (fun h13 => by exfalso; omega) (fun h13 => ?_)
                refine go_iload_n (q := 1) (i := 1) rfl rfl dX12_watch_16 ?_
                refine go_iload_n (q := 2) (i := 2) rfl rfl dX12_watch_17 ?_
                refine gn_eq (by omega) (by omega) (tgt := 38) dX12_watch_18 (by decide) (fun h18 => by exfalso; exact hfg (nm_inj h18).symm) (fun h18 => ?_)
                refine go_iload_n (q := 3) (i := 3) rfl rfl dX12_watch_21 ?_
                refine go_callS okmX12_isThick lmX12_447 ⟨nle rfl, nle rfl⟩ (ex_isThick) npmX12_isThick rfl (nle rfl) ⟨nle rfl, nle rfl⟩ dX12_watch_22 ?_
                rintro _ mz ⟨rfl, hz⟩
                subst mz
                rw [hth]
                refine go_c1 ?_
                refine gz_eq (by omega) (tgt := 38) dX12_watch_25 (by decide) (fun h25 => by exfalso; omega) (fun h25 => ?_)
                refine go_iload (i := 4) rfl dX12_watch_28 ?_
                refine go_iconst (v := -1) (by decide) dX12_watch_30 ?_
                refine go_iconst (v := nI 2) (by decide) dX12_watch_31 ?_
                refine go_callS okmX12_in lmX12_361 ⟨nle rfl, nle rfl⟩ (ex_in) npmX12_in rfl (nle rfl) ⟨nle rfl, nle rfl⟩ dX12_watch_32 ?_
                rintro _ mz ⟨rfl, hz⟩
                subst mz
                rw [iOk_in hio0]
                refine go_c1 ?_
                refine gz_ne (by omega) (tgt := 40) dX12_watch_35 (by decide) (fun h35 => ?_) (fun h35 => by exfalso; omega)
                refine go_aload_n (q := 0) (i := 0) rfl rfl dX12_watch_40 ?_
                refine go_callV okmX12_copies lmX12_413 ⟨nle rfl, nle rfl⟩ hx.o ⟨by decide, rfl⟩ (ex_copies hx hm) npmX12_copies rfl (nle rfl) ⟨nle rfl, nle rfl⟩ dX12_watch_41 ?_
                rintro _ m1 ⟨rfl, c1, e1, s1, l1, -⟩
                have hx := c1.wf hx
                have hm := c1.md hm
                refine go_c0 ?_
                refine go_iconst (v := nI 0) (by decide) dX12_watch_44 ?_
                refine go_istore (i := 5) dX12_watch_45 (nle rfl) (nle rfl) ?_
                refine go_L (L' := [some (.ref 274), some (.int (nI ((nm f)))), some (.int (nI ((nm g)))), some (.int (nI t)), some (.int (nI 0)), some (.int (nI 0))]) rfl ?_
                refine go_iload (i := 5) rfl dX12_watch_47 ?_
                refine go_iconst (v := nI 3) (by decide) dX12_watch_49 ?_
                refine gn_gt (by omega) (by omega) (tgt := 104) dX12_watch_50 (by decide) (fun h50 => by exfalso; omega) (fun h50 => ?_)
                refine go_aload_n (q := 0) (i := 0) rfl rfl dX12_watch_53 ?_
                refine go_iload_n (q := 1) (i := 1) rfl rfl dX12_watch_54 ?_
                refine go_iload_n (q := 2) (i := 2) rfl rfl dX12_watch_55 ?_
                refine go_iload_n (q := 3) (i := 3) rfl rfl dX12_watch_56 ?_
                refine go_iload (i := 5) rfl dX12_watch_57 ?_
                refine go_callV okmX12_findsWatch lmX12_472 ⟨nle rfl, nle rfl⟩ hx.o ⟨by decide, rfl⟩ (ex_finds0 hx hm ok hf4 hg4 hlf hlg hfg ht) npmX12_findsWatch rfl (nle rfl) ⟨nle rfl, nle rfl⟩ dX12_watch_59 ?_
                rintro _ m2 ⟨c2, ⟨rfl, h0⟩ | ⟨rfl, n0⟩⟩
                · skip
                  have d2 := c2
                  rw [e1] at h0
                  have hx := CX12 c2 hx
                  have hm := mdF c2 hm
                  refine go_c1 ?_
                  refine gz_ne (by omega) (tgt := 68) dX12_watch_62 (by decide) (fun h62 => ?_) (fun h62 => by exfalso; omega)
                  refine go_iload (i := 4) rfl dX12_watch_68 ?_
                  refine go_iconst (v := -1) (by decide) dX12_watch_70 ?_
                  refine go_icmp_ne (tgt := 79) dX12_watch_71 (by decide) (fun h71 => ?_) (fun h71 => by exfalso; exact absurd h71 (by decide))
                  refine go_iload (i := 4) rfl dX12_watch_79 ?_
                  refine go_iload (i := 5) rfl dX12_watch_81 ?_
                  refine gn_ge (by omega) (by omega) (tgt := 96) dX12_watch_83 (by decide) (fun h83 => ?_) (fun h83 => by exfalso; omega)
                  refine go_iconst (v := -1) (by decide) dX12_watch_96 ?_
                  refine go_iret rfl ⟨Nat.zero_le _, Nat.zero_le _⟩ dX12_watch_97 ?_
                  refine ⟨⟨_, rfl, Or.inl ⟨f, g, t, hVd, Or.inl ⟨h0, fun _ => 0, ?_⟩⟩⟩, (RfK.of c1).tr (RfK.fd d2)⟩
                  exact (pck_o (by omega) (by omega)).symm
                · skip
                  have d2 := c2
                  have q0 : gI m2 316 = gI m1 316 := c2.at (by unfold FdA; omega)
                  rw [e1] at n0
                  have hx := CX12 c2 hx
                  have hm := mdF c2 hm
                  refine go_c1 ?_
                  refine gz_ne (by omega) (tgt := 68) dX12_watch_62 (by decide) (fun h62 => by exfalso; omega) (fun h62 => ?_)
                  refine go_goto (tgt := 98) dX12_watch_65 (by decide) ?_
                  refine gn_inc (i := 5) (a := 0) (q := 1) rfl dX12_watch_98 (nle rfl) rfl ?_
                  refine go_goto (tgt := 47) dX12_watch_101 (by decide) ?_
                  refine go_L (L' := [some (.ref 274), some (.int (nI ((nm f)))), some (.int (nI ((nm g)))), some (.int (nI t)), some (.int (nI 0)), some (.int (nI (0 + 1)))]) rfl ?_
                  refine go_iload (i := 5) rfl dX12_watch_47 ?_
                  refine go_iconst (v := nI 3) (by decide) dX12_watch_49 ?_
                  refine gn_gt (by omega) (by omega) (tgt := 104) dX12_watch_50 (by decide) (fun h50 => by exfalso; omega) (fun h50 => ?_)
                  refine go_aload_n (q := 0) (i := 0) rfl rfl dX12_watch_53 ?_
                  refine go_iload_n (q := 1) (i := 1) rfl rfl dX12_watch_54 ?_
                  refine go_iload_n (q := 2) (i := 2) rfl rfl dX12_watch_55 ?_
                  refine go_iload_n (q := 3) (i := 3) rfl rfl dX12_watch_56 ?_
                  refine go_iload (i := 5) rfl dX12_watch_57 ?_
                  refine go_callV okmX12_findsWatch lmX12_472 ⟨nle rfl, nle rfl⟩ hx.o ⟨by decide, rfl⟩ (ex_finds1 hx hm ok hf4 hg4 hlf hlg hfg ht) npmX12_findsWatch rfl (nle rfl) ⟨nle rfl, nle rfl⟩ dX12_watch_59 ?_
                  rintro _ m3 ⟨c3, ⟨rfl, fa, h1, ea⟩ | ⟨rfl, n1⟩⟩
                  · skip
                    have d3 := d2.tr c3
                    rw [q0, e1] at h1
                    have hx := CX12 c3 hx
                    have hm := mdF c3 hm
                    refine go_c1 ?_
                    refine gz_ne (by omega) (tgt := 68) dX12_watch_62 (by decide) (fun h62 => ?_) (fun h62 => by exfalso; omega)
                    refine go_iload (i := 4) rfl dX12_watch_68 ?_
                    refine go_iconst (v := -1) (by decide) dX12_watch_70 ?_
                    refine go_icmp_ne (tgt := 79) dX12_watch_71 (by decide) (fun h71 => ?_) (fun h71 => by exfalso; exact absurd h71 (by decide))
                    refine go_iload (i := 4) rfl dX12_watch_79 ?_
                    refine go_iload (i := 5) rfl dX12_watch_81 ?_
                    refine gn_ge (by omega) (by omega) (tgt := 96) dX12_watch_83 (by decide) (fun h83 => by exfalso; omega) (fun h83 => ?_)
                    refine go_aload_n (q := 0) (i := 0) rfl rfl dX12_watch_86 ?_
                    refine go_getR lf12_158 rfl hx.o hx.r67 dX12_watch_87 ?_
                    refine go_iload (i := 4) rfl dX12_watch_90 ?_
                    refine go_iald (j := 0) hx.i67 (by omega) (by first | decide | omega) rfl dX12_watch_92 ?_
                    refine go_goto (tgt := 97) dX12_watch_93 (by decide) ?_
                    refine go_iret rfl ⟨Nat.zero_le _, Nat.zero_le _⟩ dX12_watch_97 ?_
                    refine ⟨⟨_, rfl, Or.inl ⟨f, g, t, hVd, Or.inr (Or.inl ⟨n0, fun _ => fa, h1, ?_⟩)⟩⟩, (RfK.of c1).tr (RfK.fd d3)⟩
                    rw [pck_j (by omega) (by omega)]
                    exact ea
                  · skip
                    have d3 := d2.tr c3
                    have q1 : gI m3 316 = gI m1 316 := (c3.at (by unfold FdA; omega)).trans q0
                    rw [q0, e1] at n1
                    have hx := CX12 c3 hx
                    have hm := mdF c3 hm
                    refine go_c1 ?_
                    refine gz_ne (by omega) (tgt := 68) dX12_watch_62 (by decide) (fun h62 => by exfalso; omega) (fun h62 => ?_)
                    refine go_goto (tgt := 98) dX12_watch_65 (by decide) ?_
                    refine gn_inc (i := 5) (a := 0 + 1) (q := 1) rfl dX12_watch_98 (nle rfl) rfl ?_
                    refine go_goto (tgt := 47) dX12_watch_101 (by decide) ?_
                    refine go_L (L' := [some (.ref 274), some (.int (nI ((nm f)))), some (.int (nI ((nm g)))), some (.int (nI t)), some (.int (nI 0)), some (.int (nI ((0 + 1) + 1)))]) rfl ?_
                    refine go_iload (i := 5) rfl dX12_watch_47 ?_
                    refine go_iconst (v := nI 3) (by decide) dX12_watch_49 ?_
                    refine gn_gt (by omega) (by omega) (tgt := 104) dX12_watch_50 (by decide) (fun h50 => by exfalso; omega) (fun h50 => ?_)
                    refine go_aload_n (q := 0) (i := 0) rfl rfl dX12_watch_53 ?_
                    refine go_iload_n (q := 1) (i := 1) rfl rfl dX12_watch_54 ?_
                    refine go_iload_n (q := 2) (i := 2) rfl rfl dX12_watch_55 ?_
                    refine go_iload_n (q := 3) (i := 3) rfl rfl dX12_watch_56 ?_
                    refine go_iload (i := 5) rfl dX12_watch_57 ?_
                    refine go_callV okmX12_findsWatch lmX12_472 ⟨nle rfl, nle rfl⟩ hx.o ⟨by decide, rfl⟩ (ex_finds2 hx hm ok hf4 hg4 hlf hlg hfg ht) npmX12_findsWatch rfl (nle rfl) ⟨nle rfl, nle rfl⟩ dX12_watch_59 ?_
                    rintro _ m4 ⟨c4, ⟨rfl, fa, fb, h2, ea, eb⟩ | ⟨rfl, n2⟩⟩
                    · skip
                      have d4 := d3.tr c4
                      rw [q1, e1] at h2
                      have hx := CX12 c4 hx
                      have hm := mdF c4 hm
                      refine go_c1 ?_
                      refine gz_ne (by omega) (tgt := 68) dX12_watch_62 (by decide) (fun h62 => ?_) (fun h62 => by exfalso; omega)
                      refine go_iload (i := 4) rfl dX12_watch_68 ?_
                      refine go_iconst (v := -1) (by decide) dX12_watch_70 ?_
                      refine go_icmp_ne (tgt := 79) dX12_watch_71 (by decide) (fun h71 => ?_) (fun h71 => by exfalso; exact absurd h71 (by decide))
                      refine go_iload (i := 4) rfl dX12_watch_79 ?_
                      refine go_iload (i := 5) rfl dX12_watch_81 ?_
                      refine gn_ge (by omega) (by omega) (tgt := 96) dX12_watch_83 (by decide) (fun h83 => by exfalso; omega) (fun h83 => ?_)
                      refine go_aload_n (q := 0) (i := 0) rfl rfl dX12_watch_86 ?_
                      refine go_getR lf12_158 rfl hx.o hx.r67 dX12_watch_87 ?_
                      refine go_iload (i := 4) rfl dX12_watch_90 ?_
                      refine go_iald (j := 0) hx.i67 (by omega) (by first | decide | omega) rfl dX12_watch_92 ?_
                      refine go_goto (tgt := 97) dX12_watch_93 (by decide) ?_
                      refine go_iret rfl ⟨Nat.zero_le _, Nat.zero_le _⟩ dX12_watch_97 ?_
                      refine ⟨⟨_, rfl, Or.inl ⟨f, g, t, hVd, Or.inr (Or.inr (Or.inl ⟨n0, n1, fun k => if k = 0 then fa else fb, h2, ?_⟩))⟩⟩, (RfK.of c1).tr (RfK.fd d4)⟩
                      rw [pck_j (by omega) (by omega)]
                      exact ea
                    · skip
                      have d4 := d3.tr c4
                      have q2 : gI m4 316 = gI m1 316 := (c4.at (by unfold FdA; omega)).trans q1
                      rw [q1, e1] at n2
                      have hx := CX12 c4 hx
                      have hm := mdF c4 hm
                      refine go_c1 ?_
                      refine gz_ne (by omega) (tgt := 68) dX12_watch_62 (by decide) (fun h62 => by exfalso; omega) (fun h62 => ?_)
                      refine go_goto (tgt := 98) dX12_watch_65 (by decide) ?_
                      refine gn_inc (i := 5) (a := (0 + 1) + 1) (q := 1) rfl dX12_watch_98 (nle rfl) rfl ?_
                      refine go_goto (tgt := 47) dX12_watch_101 (by decide) ?_
                      refine go_L (L' := [some (.ref 274), some (.int (nI ((nm f)))), some (.int (nI ((nm g)))), some (.int (nI t)), some (.int (nI 0)), some (.int (nI (((0 + 1) + 1) + 1)))]) rfl ?_
                      refine go_iload (i := 5) rfl dX12_watch_47 ?_
                      refine go_iconst (v := nI 3) (by decide) dX12_watch_49 ?_
                      refine gn_gt (by omega) (by omega) (tgt := 104) dX12_watch_50 (by decide) (fun h50 => by exfalso; omega) (fun h50 => ?_)
                      refine go_aload_n (q := 0) (i := 0) rfl rfl dX12_watch_53 ?_
                      refine go_iload_n (q := 1) (i := 1) rfl rfl dX12_watch_54 ?_
                      refine go_iload_n (q := 2) (i := 2) rfl rfl dX12_watch_55 ?_
                      refine go_iload_n (q := 3) (i := 3) rfl rfl dX12_watch_56 ?_
                      refine go_iload (i := 5) rfl dX12_watch_57 ?_
                      refine go_callV okmX12_findsWatch lmX12_472 ⟨nle rfl, nle rfl⟩ hx.o ⟨by decide, rfl⟩ (ex_finds3 hx hm ok hf4 hg4 hlf hlg hfg ht) npmX12_findsWatch rfl (nle rfl) ⟨nle rfl, nle rfl⟩ dX12_watch_59 ?_
                      rintro _ m5 ⟨c5, ⟨rfl, fa, fb, fd, h3, ea, eb, ed⟩ | ⟨rfl, n3⟩⟩
                      · skip
                        have d5 := d4.tr c5
                        rw [q2, e1] at h3
                        have hx := CX12 c5 hx
                        have hm := mdF c5 hm
                        refine go_c1 ?_
                        refine gz_ne (by omega) (tgt := 68) dX12_watch_62 (by decide) (fun h62 => ?_) (fun h62 => by exfalso; omega)
                        refine go_iload (i := 4) rfl dX12_watch_68 ?_
                        refine go_iconst (v := -1) (by decide) dX12_watch_70 ?_
                        refine go_icmp_ne (tgt := 79) dX12_watch_71 (by decide) (fun h71 => ?_) (fun h71 => by exfalso; exact absurd h71 (by decide))
                        refine go_iload (i := 4) rfl dX12_watch_79 ?_
                        refine go_iload (i := 5) rfl dX12_watch_81 ?_
                        refine gn_ge (by omega) (by omega) (tgt := 96) dX12_watch_83 (by decide) (fun h83 => by exfalso; omega) (fun h83 => ?_)
                        refine go_aload_n (q := 0) (i := 0) rfl rfl dX12_watch_86 ?_
                        refine go_getR lf12_158 rfl hx.o hx.r67 dX12_watch_87 ?_
                        refine go_iload (i := 4) rfl dX12_watch_90 ?_
                        refine go_iald (j := 0) hx.i67 (by omega) (by first | decide | omega) rfl dX12_watch_92 ?_
                        refine go_goto (tgt := 97) dX12_watch_93 (by decide) ?_
                        refine go_iret rfl ⟨Nat.zero_le _, Nat.zero_le _⟩ dX12_watch_97 ?_
                        refine ⟨⟨_, rfl, Or.inl ⟨f, g, t, hVd, Or.inr (Or.inr (Or.inr (Or.inl ⟨n0, n1, n2, fun k => if k = 0 then fa else if k = 1 then fb else fd, h3, ?_⟩)))⟩⟩, (RfK.of c1).tr (RfK.fd d5)⟩
                        rw [pck_j (by omega) (by omega)]
                        exact ea
                      · skip
                        have d5 := d4.tr c5
                        have q3 : gI m5 316 = gI m1 316 := (c5.at (by unfold FdA; omega)).trans q2
                        rw [q2, e1] at n3
                        have hx := CX12 c5 hx
                        have hm := mdF c5 hm
                        refine go_c1 ?_
                        refine gz_ne (by omega) (tgt := 68) dX12_watch_62 (by decide) (fun h62 => by exfalso; omega) (fun h62 => ?_)
                        refine go_goto (tgt := 98) dX12_watch_65 (by decide) ?_
                        refine gn_inc (i := 5) (a := ((0 + 1) + 1) + 1) (q := 1) rfl dX12_watch_98 (nle rfl) rfl ?_
                        refine go_goto (tgt := 47) dX12_watch_101 (by decide) ?_
                        refine go_L (L' := [some (.ref 274), some (.int (nI ((nm f)))), some (.int (nI ((nm g)))), some (.int (nI t)), some (.int (nI 0)), some (.int (nI ((((0 + 1) + 1) + 1) + 1)))]) rfl ?_
                        refine go_iload (i := 5) rfl dX12_watch_47 ?_
                        refine go_iconst (v := nI 3) (by decide) dX12_watch_49 ?_
                        refine gn_gt (by omega) (by omega) (tgt := 104) dX12_watch_50 (by decide) (fun h50 => ?_) (fun h50 => by exfalso; omega)
                        refine go_bipush (v := -2) (by decide) dX12_watch_104 ?_
                        refine go_iret rfl ⟨Nat.zero_le _, Nat.zero_le _⟩ dX12_watch_106 ?_
                        exact ⟨⟨_, rfl, Or.inl ⟨f, g, t, hVd, Or.inr (Or.inr (Or.inr (Or.inr ⟨n0, n1, n2, n3, rfl⟩)))⟩⟩, (RfK.of c1).tr (RfK.fd d5)⟩
              · skip
                refine go_aload_n (q := 0) (i := 0) rfl rfl dX12_watch_0 ?_
                refine go_iload_n (q := 1) (i := 1) rfl rfl dX12_watch_1 ?_
                refine go_callV okmX12_isAt lmX12_462 ⟨nle rfl, nle rfl⟩ hx.o ⟨by decide, rfl⟩ (ex_isAt hx hm) npmX12_isAt rfl (nle rfl) ⟨nle rfl, nle rfl⟩ dX12_watch_2 ?_
                rintro _ mz ⟨rfl, hz⟩
                subst mz
                rw [hix]
                refine go_c1 ?_
                refine gz_eq (by omega) (tgt := 38) dX12_watch_5 (by decide) (fun h5 => by exfalso; omega) (fun h5 => ?_)
                refine go_aload_n (q := 0) (i := 0) rfl rfl dX12_watch_8 ?_
                refine go_iload_n (q := 2) (i := 2) rfl rfl dX12_watch_9 ?_
                refine go_callV okmX12_isAt lmX12_462 ⟨nle rfl, nle rfl⟩ hx.o ⟨by decide, rfl⟩ (ex_isAt hx hm) npmX12_isAt rfl (nle rfl) ⟨nle rfl, nle rfl⟩ dX12_watch_10 ?_
                rintro _ mz ⟨rfl, hz⟩
                subst mz
                rw [hiy]
                refine go_c1 ?_
                refine gz_eq (by omega) (tgt := 38) dX12_watch_13 (by decide) (fun h13 => by exfalso; omega) (fun h13 => ?_)
                refine go_iload_n (q := 1) (i := 1) rfl rfl dX12_watch_16 ?_
                refine go_iload_n (q := 2) (i := 2) rfl rfl dX12_watch_17 ?_
                refine gn_eq (by omega) (by omega) (tgt := 38) dX12_watch_18 (by decide) (fun h18 => by exfalso; exact hfg (nm_inj h18).symm) (fun h18 => ?_)
                refine go_iload_n (q := 3) (i := 3) rfl rfl dX12_watch_21 ?_
                refine go_callS okmX12_isThick lmX12_447 ⟨nle rfl, nle rfl⟩ (ex_isThick) npmX12_isThick rfl (nle rfl) ⟨nle rfl, nle rfl⟩ dX12_watch_22 ?_
                rintro _ mz ⟨rfl, hz⟩
                subst mz
                rw [hth]
                refine go_c1 ?_
                refine gz_eq (by omega) (tgt := 38) dX12_watch_25 (by decide) (fun h25 => by exfalso; omega) (fun h25 => ?_)
                refine go_iload (i := 4) rfl dX12_watch_28 ?_
                refine go_iconst (v := -1) (by decide) dX12_watch_30 ?_
                refine go_iconst (v := nI 2) (by decide) dX12_watch_31 ?_
                refine go_callS okmX12_in lmX12_361 ⟨nle rfl, nle rfl⟩ (ex_in) npmX12_in rfl (nle rfl) ⟨nle rfl, nle rfl⟩ dX12_watch_32 ?_
                rintro _ mz ⟨rfl, hz⟩
                subst mz
                rw [iOk_in hio0]
                refine go_c1 ?_
                refine gz_ne (by omega) (tgt := 40) dX12_watch_35 (by decide) (fun h35 => ?_) (fun h35 => by exfalso; omega)
                refine go_aload_n (q := 0) (i := 0) rfl rfl dX12_watch_40 ?_
                refine go_callV okmX12_copies lmX12_413 ⟨nle rfl, nle rfl⟩ hx.o ⟨by decide, rfl⟩ (ex_copies hx hm) npmX12_copies rfl (nle rfl) ⟨nle rfl, nle rfl⟩ dX12_watch_41 ?_
                rintro _ m1 ⟨rfl, c1, e1, s1, l1, -⟩
                have hx := c1.wf hx
                have hm := c1.md hm
                refine go_c0 ?_
                refine go_iconst (v := nI 0) (by decide) dX12_watch_44 ?_
                refine go_istore (i := 5) dX12_watch_45 (nle rfl) (nle rfl) ?_
                refine go_L (L' := [some (.ref 274), some (.int (nI ((nm f)))), some (.int (nI ((nm g)))), some (.int (nI t)), some (.int (nI 1)), some (.int (nI 0))]) rfl ?_
                refine go_iload (i := 5) rfl dX12_watch_47 ?_
                refine go_iconst (v := nI 3) (by decide) dX12_watch_49 ?_
                refine gn_gt (by omega) (by omega) (tgt := 104) dX12_watch_50 (by decide) (fun h50 => by exfalso; omega) (fun h50 => ?_)
                refine go_aload_n (q := 0) (i := 0) rfl rfl dX12_watch_53 ?_
                refine go_iload_n (q := 1) (i := 1) rfl rfl dX12_watch_54 ?_
                refine go_iload_n (q := 2) (i := 2) rfl rfl dX12_watch_55 ?_
                refine go_iload_n (q := 3) (i := 3) rfl rfl dX12_watch_56 ?_
                refine go_iload (i := 5) rfl dX12_watch_57 ?_
                refine go_callV okmX12_findsWatch lmX12_472 ⟨nle rfl, nle rfl⟩ hx.o ⟨by decide, rfl⟩ (ex_finds0 hx hm ok hf4 hg4 hlf hlg hfg ht) npmX12_findsWatch rfl (nle rfl) ⟨nle rfl, nle rfl⟩ dX12_watch_59 ?_
                rintro _ m2 ⟨c2, ⟨rfl, h0⟩ | ⟨rfl, n0⟩⟩
                · skip
                  have d2 := c2
                  rw [e1] at h0
                  have hx := CX12 c2 hx
                  have hm := mdF c2 hm
                  refine go_c1 ?_
                  refine gz_ne (by omega) (tgt := 68) dX12_watch_62 (by decide) (fun h62 => ?_) (fun h62 => by exfalso; omega)
                  refine go_iload (i := 4) rfl dX12_watch_68 ?_
                  refine go_iconst (v := -1) (by decide) dX12_watch_70 ?_
                  refine go_icmp_ne (tgt := 79) dX12_watch_71 (by decide) (fun h71 => ?_) (fun h71 => by exfalso; exact absurd h71 (by decide))
                  refine go_iload (i := 4) rfl dX12_watch_79 ?_
                  refine go_iload (i := 5) rfl dX12_watch_81 ?_
                  refine gn_ge (by omega) (by omega) (tgt := 96) dX12_watch_83 (by decide) (fun h83 => ?_) (fun h83 => by exfalso; omega)
                  refine go_iconst (v := -1) (by decide) dX12_watch_96 ?_
                  refine go_iret rfl ⟨Nat.zero_le _, Nat.zero_le _⟩ dX12_watch_97 ?_
                  refine ⟨⟨_, rfl, Or.inl ⟨f, g, t, hVd, Or.inl ⟨h0, fun _ => 0, ?_⟩⟩⟩, (RfK.of c1).tr (RfK.fd d2)⟩
                  exact (pck_o (by omega) (by omega)).symm
                · skip
                  have d2 := c2
                  have q0 : gI m2 316 = gI m1 316 := c2.at (by unfold FdA; omega)
                  rw [e1] at n0
                  have hx := CX12 c2 hx
                  have hm := mdF c2 hm
                  refine go_c1 ?_
                  refine gz_ne (by omega) (tgt := 68) dX12_watch_62 (by decide) (fun h62 => by exfalso; omega) (fun h62 => ?_)
                  refine go_goto (tgt := 98) dX12_watch_65 (by decide) ?_
                  refine gn_inc (i := 5) (a := 0) (q := 1) rfl dX12_watch_98 (nle rfl) rfl ?_
                  refine go_goto (tgt := 47) dX12_watch_101 (by decide) ?_
                  refine go_L (L' := [some (.ref 274), some (.int (nI ((nm f)))), some (.int (nI ((nm g)))), some (.int (nI t)), some (.int (nI 1)), some (.int (nI (0 + 1)))]) rfl ?_
                  refine go_iload (i := 5) rfl dX12_watch_47 ?_
                  refine go_iconst (v := nI 3) (by decide) dX12_watch_49 ?_
                  refine gn_gt (by omega) (by omega) (tgt := 104) dX12_watch_50 (by decide) (fun h50 => by exfalso; omega) (fun h50 => ?_)
                  refine go_aload_n (q := 0) (i := 0) rfl rfl dX12_watch_53 ?_
                  refine go_iload_n (q := 1) (i := 1) rfl rfl dX12_watch_54 ?_
                  refine go_iload_n (q := 2) (i := 2) rfl rfl dX12_watch_55 ?_
                  refine go_iload_n (q := 3) (i := 3) rfl rfl dX12_watch_56 ?_
                  refine go_iload (i := 5) rfl dX12_watch_57 ?_
                  refine go_callV okmX12_findsWatch lmX12_472 ⟨nle rfl, nle rfl⟩ hx.o ⟨by decide, rfl⟩ (ex_finds1 hx hm ok hf4 hg4 hlf hlg hfg ht) npmX12_findsWatch rfl (nle rfl) ⟨nle rfl, nle rfl⟩ dX12_watch_59 ?_
                  rintro _ m3 ⟨c3, ⟨rfl, fa, h1, ea⟩ | ⟨rfl, n1⟩⟩
                  · skip
                    have d3 := d2.tr c3
                    rw [q0, e1] at h1
                    have hx := CX12 c3 hx
                    have hm := mdF c3 hm
                    refine go_c1 ?_
                    refine gz_ne (by omega) (tgt := 68) dX12_watch_62 (by decide) (fun h62 => ?_) (fun h62 => by exfalso; omega)
                    refine go_iload (i := 4) rfl dX12_watch_68 ?_
                    refine go_iconst (v := -1) (by decide) dX12_watch_70 ?_
                    refine go_icmp_ne (tgt := 79) dX12_watch_71 (by decide) (fun h71 => ?_) (fun h71 => by exfalso; exact absurd h71 (by decide))
                    refine go_iload (i := 4) rfl dX12_watch_79 ?_
                    refine go_iload (i := 5) rfl dX12_watch_81 ?_
                    refine gn_ge (by omega) (by omega) (tgt := 96) dX12_watch_83 (by decide) (fun h83 => ?_) (fun h83 => by exfalso; omega)
                    refine go_iconst (v := -1) (by decide) dX12_watch_96 ?_
                    refine go_iret rfl ⟨Nat.zero_le _, Nat.zero_le _⟩ dX12_watch_97 ?_
                    refine ⟨⟨_, rfl, Or.inl ⟨f, g, t, hVd, Or.inr (Or.inl ⟨n0, fun _ => fa, h1, ?_⟩)⟩⟩, (RfK.of c1).tr (RfK.fd d3)⟩
                    exact (pck_o (by omega) (by omega)).symm
                  · skip
                    have d3 := d2.tr c3
                    have q1 : gI m3 316 = gI m1 316 := (c3.at (by unfold FdA; omega)).trans q0
                    rw [q0, e1] at n1
                    have hx := CX12 c3 hx
                    have hm := mdF c3 hm
                    refine go_c1 ?_
                    refine gz_ne (by omega) (tgt := 68) dX12_watch_62 (by decide) (fun h62 => by exfalso; omega) (fun h62 => ?_)
                    refine go_goto (tgt := 98) dX12_watch_65 (by decide) ?_
                    refine gn_inc (i := 5) (a := 0 + 1) (q := 1) rfl dX12_watch_98 (nle rfl) rfl ?_
                    refine go_goto (tgt := 47) dX12_watch_101 (by decide) ?_
                    refine go_L (L' := [some (.ref 274), some (.int (nI ((nm f)))), some (.int (nI ((nm g)))), some (.int (nI t)), some (.int (nI 1)), some (.int (nI ((0 + 1) + 1)))]) rfl ?_
                    refine go_iload (i := 5) rfl dX12_watch_47 ?_
                    refine go_iconst (v := nI 3) (by decide) dX12_watch_49 ?_
                    refine gn_gt (by omega) (by omega) (tgt := 104) dX12_watch_50 (by decide) (fun h50 => by exfalso; omega) (fun h50 => ?_)
                    refine go_aload_n (q := 0) (i := 0) rfl rfl dX12_watch_53 ?_
                    refine go_iload_n (q := 1) (i := 1) rfl rfl dX12_watch_54 ?_
                    refine go_iload_n (q := 2) (i := 2) rfl rfl dX12_watch_55 ?_
                    refine go_iload_n (q := 3) (i := 3) rfl rfl dX12_watch_56 ?_
                    refine go_iload (i := 5) rfl dX12_watch_57 ?_
                    refine go_callV okmX12_findsWatch lmX12_472 ⟨nle rfl, nle rfl⟩ hx.o ⟨by decide, rfl⟩ (ex_finds2 hx hm ok hf4 hg4 hlf hlg hfg ht) npmX12_findsWatch rfl (nle rfl) ⟨nle rfl, nle rfl⟩ dX12_watch_59 ?_
                    rintro _ m4 ⟨c4, ⟨rfl, fa, fb, h2, ea, eb⟩ | ⟨rfl, n2⟩⟩
                    · skip
                      have d4 := d3.tr c4
                      rw [q1, e1] at h2
                      have hx := CX12 c4 hx
                      have hm := mdF c4 hm
                      refine go_c1 ?_
                      refine gz_ne (by omega) (tgt := 68) dX12_watch_62 (by decide) (fun h62 => ?_) (fun h62 => by exfalso; omega)
                      refine go_iload (i := 4) rfl dX12_watch_68 ?_
                      refine go_iconst (v := -1) (by decide) dX12_watch_70 ?_
                      refine go_icmp_ne (tgt := 79) dX12_watch_71 (by decide) (fun h71 => ?_) (fun h71 => by exfalso; exact absurd h71 (by decide))
                      refine go_iload (i := 4) rfl dX12_watch_79 ?_
                      refine go_iload (i := 5) rfl dX12_watch_81 ?_
                      refine gn_ge (by omega) (by omega) (tgt := 96) dX12_watch_83 (by decide) (fun h83 => by exfalso; omega) (fun h83 => ?_)
                      refine go_aload_n (q := 0) (i := 0) rfl rfl dX12_watch_86 ?_
                      refine go_getR lf12_158 rfl hx.o hx.r67 dX12_watch_87 ?_
                      refine go_iload (i := 4) rfl dX12_watch_90 ?_
                      refine go_iald (j := 1) hx.i67 (by omega) (by first | decide | omega) rfl dX12_watch_92 ?_
                      refine go_goto (tgt := 97) dX12_watch_93 (by decide) ?_
                      refine go_iret rfl ⟨Nat.zero_le _, Nat.zero_le _⟩ dX12_watch_97 ?_
                      refine ⟨⟨_, rfl, Or.inl ⟨f, g, t, hVd, Or.inr (Or.inr (Or.inl ⟨n0, n1, fun k => if k = 0 then fa else fb, h2, ?_⟩))⟩⟩, (RfK.of c1).tr (RfK.fd d4)⟩
                      rw [pck_j (by omega) (by omega)]
                      exact eb
                    · skip
                      have d4 := d3.tr c4
                      have q2 : gI m4 316 = gI m1 316 := (c4.at (by unfold FdA; omega)).trans q1
                      rw [q1, e1] at n2
                      have hx := CX12 c4 hx
                      have hm := mdF c4 hm
                      refine go_c1 ?_
                      refine gz_ne (by omega) (tgt := 68) dX12_watch_62 (by decide) (fun h62 => by exfalso; omega) (fun h62 => ?_)
                      refine go_goto (tgt := 98) dX12_watch_65 (by decide) ?_
                      refine gn_inc (i := 5) (a := (0 + 1) + 1) (q := 1) rfl dX12_watch_98 (nle rfl) rfl ?_
                      refine go_goto (tgt := 47) dX12_watch_101 (by decide) ?_
                      refine go_L (L' := [some (.ref 274), some (.int (nI ((nm f)))), some (.int (nI ((nm g)))), some (.int (nI t)), some (.int (nI 1)), some (.int (nI (((0 + 1) + 1) + 1)))]) rfl ?_
                      refine go_iload (i := 5) rfl dX12_watch_47 ?_
                      refine go_iconst (v := nI 3) (by decide) dX12_watch_49 ?_
                      refine gn_gt (by omega) (by omega) (tgt := 104) dX12_watch_50 (by decide) (fun h50 => by exfalso; omega) (fun h50 => ?_)
                      refine go_aload_n (q := 0) (i := 0) rfl rfl dX12_watch_53 ?_
                      refine go_iload_n (q := 1) (i := 1) rfl rfl dX12_watch_54 ?_
                      refine go_iload_n (q := 2) (i := 2) rfl rfl dX12_watch_55 ?_
                      refine go_iload_n (q := 3) (i := 3) rfl rfl dX12_watch_56 ?_
                      refine go_iload (i := 5) rfl dX12_watch_57 ?_
                      refine go_callV okmX12_findsWatch lmX12_472 ⟨nle rfl, nle rfl⟩ hx.o ⟨by decide, rfl⟩ (ex_finds3 hx hm ok hf4 hg4 hlf hlg hfg ht) npmX12_findsWatch rfl (nle rfl) ⟨nle rfl, nle rfl⟩ dX12_watch_59 ?_
                      rintro _ m5 ⟨c5, ⟨rfl, fa, fb, fd, h3, ea, eb, ed⟩ | ⟨rfl, n3⟩⟩
                      · skip
                        have d5 := d4.tr c5
                        rw [q2, e1] at h3
                        have hx := CX12 c5 hx
                        have hm := mdF c5 hm
                        refine go_c1 ?_
                        refine gz_ne (by omega) (tgt := 68) dX12_watch_62 (by decide) (fun h62 => ?_) (fun h62 => by exfalso; omega)
                        refine go_iload (i := 4) rfl dX12_watch_68 ?_
                        refine go_iconst (v := -1) (by decide) dX12_watch_70 ?_
                        refine go_icmp_ne (tgt := 79) dX12_watch_71 (by decide) (fun h71 => ?_) (fun h71 => by exfalso; exact absurd h71 (by decide))
                        refine go_iload (i := 4) rfl dX12_watch_79 ?_
                        refine go_iload (i := 5) rfl dX12_watch_81 ?_
                        refine gn_ge (by omega) (by omega) (tgt := 96) dX12_watch_83 (by decide) (fun h83 => by exfalso; omega) (fun h83 => ?_)
                        refine go_aload_n (q := 0) (i := 0) rfl rfl dX12_watch_86 ?_
                        refine go_getR lf12_158 rfl hx.o hx.r67 dX12_watch_87 ?_
                        refine go_iload (i := 4) rfl dX12_watch_90 ?_
                        refine go_iald (j := 1) hx.i67 (by omega) (by first | decide | omega) rfl dX12_watch_92 ?_
                        refine go_goto (tgt := 97) dX12_watch_93 (by decide) ?_
                        refine go_iret rfl ⟨Nat.zero_le _, Nat.zero_le _⟩ dX12_watch_97 ?_
                        refine ⟨⟨_, rfl, Or.inl ⟨f, g, t, hVd, Or.inr (Or.inr (Or.inr (Or.inl ⟨n0, n1, n2, fun k => if k = 0 then fa else if k = 1 then fb else fd, h3, ?_⟩)))⟩⟩, (RfK.of c1).tr (RfK.fd d5)⟩
                        rw [pck_j (by omega) (by omega)]
                        exact eb
                      · skip
                        have d5 := d4.tr c5
                        have q3 : gI m5 316 = gI m1 316 := (c5.at (by unfold FdA; omega)).trans q2
                        rw [q2, e1] at n3
                        have hx := CX12 c5 hx
                        have hm := mdF c5 hm
                        refine go_c1 ?_
                        refine gz_ne (by omega) (tgt := 68) dX12_watch_62 (by decide) (fun h62 => by exfalso; omega) (fun h62 => ?_)
                        refine go_goto (tgt := 98) dX12_watch_65 (by decide) ?_
                        refine gn_inc (i := 5) (a := ((0 + 1) + 1) + 1) (q := 1) rfl dX12_watch_98 (nle rfl) rfl ?_
                        refine go_goto (tgt := 47) dX12_watch_101 (by decide) ?_
                        refine go_L (L' := [some (.ref 274), some (.int (nI ((nm f)))), some (.int (nI ((nm g)))), some (.int (nI t)), some (.int (nI 1)), some (.int (nI ((((0 + 1) + 1) + 1) + 1)))]) rfl ?_
                        refine go_iload (i := 5) rfl dX12_watch_47 ?_
                        refine go_iconst (v := nI 3) (by decide) dX12_watch_49 ?_
                        refine gn_gt (by omega) (by omega) (tgt := 104) dX12_watch_50 (by decide) (fun h50 => ?_) (fun h50 => by exfalso; omega)
                        refine go_bipush (v := -2) (by decide) dX12_watch_104 ?_
                        refine go_iret rfl ⟨Nat.zero_le _, Nat.zero_le _⟩ dX12_watch_106 ?_
                        exact ⟨⟨_, rfl, Or.inl ⟨f, g, t, hVd, Or.inr (Or.inr (Or.inr (Or.inr ⟨n0, n1, n2, n3, rfl⟩)))⟩⟩, (RfK.of c1).tr (RfK.fd d5)⟩
              · skip
                refine go_aload_n (q := 0) (i := 0) rfl rfl dX12_watch_0 ?_
                refine go_iload_n (q := 1) (i := 1) rfl rfl dX12_watch_1 ?_
                refine go_callV okmX12_isAt lmX12_462 ⟨nle rfl, nle rfl⟩ hx.o ⟨by decide, rfl⟩ (ex_isAt hx hm) npmX12_isAt rfl (nle rfl) ⟨nle rfl, nle rfl⟩ dX12_watch_2 ?_
                rintro _ mz ⟨rfl, hz⟩
                subst mz
                rw [hix]
                refine go_c1 ?_
                refine gz_eq (by omega) (tgt := 38) dX12_watch_5 (by decide) (fun h5 => by exfalso; omega) (fun h5 => ?_)
                refine go_aload_n (q := 0) (i := 0) rfl rfl dX12_watch_8 ?_
                refine go_iload_n (q := 2) (i := 2) rfl rfl dX12_watch_9 ?_
                refine go_callV okmX12_isAt lmX12_462 ⟨nle rfl, nle rfl⟩ hx.o ⟨by decide, rfl⟩ (ex_isAt hx hm) npmX12_isAt rfl (nle rfl) ⟨nle rfl, nle rfl⟩ dX12_watch_10 ?_
                rintro _ mz ⟨rfl, hz⟩
                subst mz
                rw [hiy]
                refine go_c1 ?_
                refine gz_eq (by omega) (tgt := 38) dX12_watch_13 (by decide) (fun h13 => by exfalso; omega) (fun h13 => ?_)
                refine go_iload_n (q := 1) (i := 1) rfl rfl dX12_watch_16 ?_
                refine go_iload_n (q := 2) (i := 2) rfl rfl dX12_watch_17 ?_
                refine gn_eq (by omega) (by omega) (tgt := 38) dX12_watch_18 (by decide) (fun h18 => by exfalso; exact hfg (nm_inj h18).symm) (fun h18 => ?_)
                refine go_iload_n (q := 3) (i := 3) rfl rfl dX12_watch_21 ?_
                refine go_callS okmX12_isThick lmX12_447 ⟨nle rfl, nle rfl⟩ (ex_isThick) npmX12_isThick rfl (nle rfl) ⟨nle rfl, nle rfl⟩ dX12_watch_22 ?_
                rintro _ mz ⟨rfl, hz⟩
                subst mz
                rw [hth]
                refine go_c1 ?_
                refine gz_eq (by omega) (tgt := 38) dX12_watch_25 (by decide) (fun h25 => by exfalso; omega) (fun h25 => ?_)
                refine go_iload (i := 4) rfl dX12_watch_28 ?_
                refine go_iconst (v := -1) (by decide) dX12_watch_30 ?_
                refine go_iconst (v := nI 2) (by decide) dX12_watch_31 ?_
                refine go_callS okmX12_in lmX12_361 ⟨nle rfl, nle rfl⟩ (ex_in) npmX12_in rfl (nle rfl) ⟨nle rfl, nle rfl⟩ dX12_watch_32 ?_
                rintro _ mz ⟨rfl, hz⟩
                subst mz
                rw [iOk_in hio0]
                refine go_c1 ?_
                refine gz_ne (by omega) (tgt := 40) dX12_watch_35 (by decide) (fun h35 => ?_) (fun h35 => by exfalso; omega)
                refine go_aload_n (q := 0) (i := 0) rfl rfl dX12_watch_40 ?_
                refine go_callV okmX12_copies lmX12_413 ⟨nle rfl, nle rfl⟩ hx.o ⟨by decide, rfl⟩ (ex_copies hx hm) npmX12_copies rfl (nle rfl) ⟨nle rfl, nle rfl⟩ dX12_watch_41 ?_
                rintro _ m1 ⟨rfl, c1, e1, s1, l1, -⟩
                have hx := c1.wf hx
                have hm := c1.md hm
                refine go_c0 ?_
                refine go_iconst (v := nI 0) (by decide) dX12_watch_44 ?_
                refine go_istore (i := 5) dX12_watch_45 (nle rfl) (nle rfl) ?_
                refine go_L (L' := [some (.ref 274), some (.int (nI ((nm f)))), some (.int (nI ((nm g)))), some (.int (nI t)), some (.int (nI 2)), some (.int (nI 0))]) rfl ?_
                refine go_iload (i := 5) rfl dX12_watch_47 ?_
                refine go_iconst (v := nI 3) (by decide) dX12_watch_49 ?_
                refine gn_gt (by omega) (by omega) (tgt := 104) dX12_watch_50 (by decide) (fun h50 => by exfalso; omega) (fun h50 => ?_)
                refine go_aload_n (q := 0) (i := 0) rfl rfl dX12_watch_53 ?_
                refine go_iload_n (q := 1) (i := 1) rfl rfl dX12_watch_54 ?_
                refine go_iload_n (q := 2) (i := 2) rfl rfl dX12_watch_55 ?_
                refine go_iload_n (q := 3) (i := 3) rfl rfl dX12_watch_56 ?_
                refine go_iload (i := 5) rfl dX12_watch_57 ?_
                refine go_callV okmX12_findsWatch lmX12_472 ⟨nle rfl, nle rfl⟩ hx.o ⟨by decide, rfl⟩ (ex_finds0 hx hm ok hf4 hg4 hlf hlg hfg ht) npmX12_findsWatch rfl (nle rfl) ⟨nle rfl, nle rfl⟩ dX12_watch_59 ?_
                rintro _ m2 ⟨c2, ⟨rfl, h0⟩ | ⟨rfl, n0⟩⟩
                · skip
                  have d2 := c2
                  rw [e1] at h0
                  have hx := CX12 c2 hx
                  have hm := mdF c2 hm
                  refine go_c1 ?_
                  refine gz_ne (by omega) (tgt := 68) dX12_watch_62 (by decide) (fun h62 => ?_) (fun h62 => by exfalso; omega)
                  refine go_iload (i := 4) rfl dX12_watch_68 ?_
                  refine go_iconst (v := -1) (by decide) dX12_watch_70 ?_
                  refine go_icmp_ne (tgt := 79) dX12_watch_71 (by decide) (fun h71 => ?_) (fun h71 => by exfalso; exact absurd h71 (by decide))
                  refine go_iload (i := 4) rfl dX12_watch_79 ?_
                  refine go_iload (i := 5) rfl dX12_watch_81 ?_
                  refine gn_ge (by omega) (by omega) (tgt := 96) dX12_watch_83 (by decide) (fun h83 => ?_) (fun h83 => by exfalso; omega)
                  refine go_iconst (v := -1) (by decide) dX12_watch_96 ?_
                  refine go_iret rfl ⟨Nat.zero_le _, Nat.zero_le _⟩ dX12_watch_97 ?_
                  refine ⟨⟨_, rfl, Or.inl ⟨f, g, t, hVd, Or.inl ⟨h0, fun _ => 0, ?_⟩⟩⟩, (RfK.of c1).tr (RfK.fd d2)⟩
                  exact (pck_o (by omega) (by omega)).symm
                · skip
                  have d2 := c2
                  have q0 : gI m2 316 = gI m1 316 := c2.at (by unfold FdA; omega)
                  rw [e1] at n0
                  have hx := CX12 c2 hx
                  have hm := mdF c2 hm
                  refine go_c1 ?_
                  refine gz_ne (by omega) (tgt := 68) dX12_watch_62 (by decide) (fun h62 => by exfalso; omega) (fun h62 => ?_)
                  refine go_goto (tgt := 98) dX12_watch_65 (by decide) ?_
                  refine gn_inc (i := 5) (a := 0) (q := 1) rfl dX12_watch_98 (nle rfl) rfl ?_
                  refine go_goto (tgt := 47) dX12_watch_101 (by decide) ?_
                  refine go_L (L' := [some (.ref 274), some (.int (nI ((nm f)))), some (.int (nI ((nm g)))), some (.int (nI t)), some (.int (nI 2)), some (.int (nI (0 + 1)))]) rfl ?_
                  refine go_iload (i := 5) rfl dX12_watch_47 ?_
                  refine go_iconst (v := nI 3) (by decide) dX12_watch_49 ?_
                  refine gn_gt (by omega) (by omega) (tgt := 104) dX12_watch_50 (by decide) (fun h50 => by exfalso; omega) (fun h50 => ?_)
                  refine go_aload_n (q := 0) (i := 0) rfl rfl dX12_watch_53 ?_
                  refine go_iload_n (q := 1) (i := 1) rfl rfl dX12_watch_54 ?_
                  refine go_iload_n (q := 2) (i := 2) rfl rfl dX12_watch_55 ?_
                  refine go_iload_n (q := 3) (i := 3) rfl rfl dX12_watch_56 ?_
                  refine go_iload (i := 5) rfl dX12_watch_57 ?_
                  refine go_callV okmX12_findsWatch lmX12_472 ⟨nle rfl, nle rfl⟩ hx.o ⟨by decide, rfl⟩ (ex_finds1 hx hm ok hf4 hg4 hlf hlg hfg ht) npmX12_findsWatch rfl (nle rfl) ⟨nle rfl, nle rfl⟩ dX12_watch_59 ?_
                  rintro _ m3 ⟨c3, ⟨rfl, fa, h1, ea⟩ | ⟨rfl, n1⟩⟩
                  · skip
                    have d3 := d2.tr c3
                    rw [q0, e1] at h1
                    have hx := CX12 c3 hx
                    have hm := mdF c3 hm
                    refine go_c1 ?_
                    refine gz_ne (by omega) (tgt := 68) dX12_watch_62 (by decide) (fun h62 => ?_) (fun h62 => by exfalso; omega)
                    refine go_iload (i := 4) rfl dX12_watch_68 ?_
                    refine go_iconst (v := -1) (by decide) dX12_watch_70 ?_
                    refine go_icmp_ne (tgt := 79) dX12_watch_71 (by decide) (fun h71 => ?_) (fun h71 => by exfalso; exact absurd h71 (by decide))
                    refine go_iload (i := 4) rfl dX12_watch_79 ?_
                    refine go_iload (i := 5) rfl dX12_watch_81 ?_
                    refine gn_ge (by omega) (by omega) (tgt := 96) dX12_watch_83 (by decide) (fun h83 => ?_) (fun h83 => by exfalso; omega)
                    refine go_iconst (v := -1) (by decide) dX12_watch_96 ?_
                    refine go_iret rfl ⟨Nat.zero_le _, Nat.zero_le _⟩ dX12_watch_97 ?_
                    refine ⟨⟨_, rfl, Or.inl ⟨f, g, t, hVd, Or.inr (Or.inl ⟨n0, fun _ => fa, h1, ?_⟩)⟩⟩, (RfK.of c1).tr (RfK.fd d3)⟩
                    exact (pck_o (by omega) (by omega)).symm
                  · skip
                    have d3 := d2.tr c3
                    have q1 : gI m3 316 = gI m1 316 := (c3.at (by unfold FdA; omega)).trans q0
                    rw [q0, e1] at n1
                    have hx := CX12 c3 hx
                    have hm := mdF c3 hm
                    refine go_c1 ?_
                    refine gz_ne (by omega) (tgt := 68) dX12_watch_62 (by decide) (fun h62 => by exfalso; omega) (fun h62 => ?_)
                    refine go_goto (tgt := 98) dX12_watch_65 (by decide) ?_
                    refine gn_inc (i := 5) (a := 0 + 1) (q := 1) rfl dX12_watch_98 (nle rfl) rfl ?_
                    refine go_goto (tgt := 47) dX12_watch_101 (by decide) ?_
                    refine go_L (L' := [some (.ref 274), some (.int (nI ((nm f)))), some (.int (nI ((nm g)))), some (.int (nI t)), some (.int (nI 2)), some (.int (nI ((0 + 1) + 1)))]) rfl ?_
                    refine go_iload (i := 5) rfl dX12_watch_47 ?_
                    refine go_iconst (v := nI 3) (by decide) dX12_watch_49 ?_
                    refine gn_gt (by omega) (by omega) (tgt := 104) dX12_watch_50 (by decide) (fun h50 => by exfalso; omega) (fun h50 => ?_)
                    refine go_aload_n (q := 0) (i := 0) rfl rfl dX12_watch_53 ?_
                    refine go_iload_n (q := 1) (i := 1) rfl rfl dX12_watch_54 ?_
                    refine go_iload_n (q := 2) (i := 2) rfl rfl dX12_watch_55 ?_
                    refine go_iload_n (q := 3) (i := 3) rfl rfl dX12_watch_56 ?_
                    refine go_iload (i := 5) rfl dX12_watch_57 ?_
                    refine go_callV okmX12_findsWatch lmX12_472 ⟨nle rfl, nle rfl⟩ hx.o ⟨by decide, rfl⟩ (ex_finds2 hx hm ok hf4 hg4 hlf hlg hfg ht) npmX12_findsWatch rfl (nle rfl) ⟨nle rfl, nle rfl⟩ dX12_watch_59 ?_
                    rintro _ m4 ⟨c4, ⟨rfl, fa, fb, h2, ea, eb⟩ | ⟨rfl, n2⟩⟩
                    · skip
                      have d4 := d3.tr c4
                      rw [q1, e1] at h2
                      have hx := CX12 c4 hx
                      have hm := mdF c4 hm
                      refine go_c1 ?_
                      refine gz_ne (by omega) (tgt := 68) dX12_watch_62 (by decide) (fun h62 => ?_) (fun h62 => by exfalso; omega)
                      refine go_iload (i := 4) rfl dX12_watch_68 ?_
                      refine go_iconst (v := -1) (by decide) dX12_watch_70 ?_
                      refine go_icmp_ne (tgt := 79) dX12_watch_71 (by decide) (fun h71 => ?_) (fun h71 => by exfalso; exact absurd h71 (by decide))
                      refine go_iload (i := 4) rfl dX12_watch_79 ?_
                      refine go_iload (i := 5) rfl dX12_watch_81 ?_
                      refine gn_ge (by omega) (by omega) (tgt := 96) dX12_watch_83 (by decide) (fun h83 => ?_) (fun h83 => by exfalso; omega)
                      refine go_iconst (v := -1) (by decide) dX12_watch_96 ?_
                      refine go_iret rfl ⟨Nat.zero_le _, Nat.zero_le _⟩ dX12_watch_97 ?_
                      refine ⟨⟨_, rfl, Or.inl ⟨f, g, t, hVd, Or.inr (Or.inr (Or.inl ⟨n0, n1, fun k => if k = 0 then fa else fb, h2, ?_⟩))⟩⟩, (RfK.of c1).tr (RfK.fd d4)⟩
                      exact (pck_o (by omega) (by omega)).symm
                    · skip
                      have d4 := d3.tr c4
                      have q2 : gI m4 316 = gI m1 316 := (c4.at (by unfold FdA; omega)).trans q1
                      rw [q1, e1] at n2
                      have hx := CX12 c4 hx
                      have hm := mdF c4 hm
                      refine go_c1 ?_
                      refine gz_ne (by omega) (tgt := 68) dX12_watch_62 (by decide) (fun h62 => by exfalso; omega) (fun h62 => ?_)
                      refine go_goto (tgt := 98) dX12_watch_65 (by decide) ?_
                      refine gn_inc (i := 5) (a := (0 + 1) + 1) (q := 1) rfl dX12_watch_98 (nle rfl) rfl ?_
                      refine go_goto (tgt := 47) dX12_watch_101 (by decide) ?_
                      refine go_L (L' := [some (.ref 274), some (.int (nI ((nm f)))), some (.int (nI ((nm g)))), some (.int (nI t)), some (.int (nI 2)), some (.int (nI (((0 + 1) + 1) + 1)))]) rfl ?_
                      refine go_iload (i := 5) rfl dX12_watch_47 ?_
                      refine go_iconst (v := nI 3) (by decide) dX12_watch_49 ?_
                      refine gn_gt (by omega) (by omega) (tgt := 104) dX12_watch_50 (by decide) (fun h50 => by exfalso; omega) (fun h50 => ?_)
                      refine go_aload_n (q := 0) (i := 0) rfl rfl dX12_watch_53 ?_
                      refine go_iload_n (q := 1) (i := 1) rfl rfl dX12_watch_54 ?_
                      refine go_iload_n (q := 2) (i := 2) rfl rfl dX12_watch_55 ?_
                      refine go_iload_n (q := 3) (i := 3) rfl rfl dX12_watch_56 ?_
                      refine go_iload (i := 5) rfl dX12_watch_57 ?_
                      refine go_callV okmX12_findsWatch lmX12_472 ⟨nle rfl, nle rfl⟩ hx.o ⟨by decide, rfl⟩ (ex_finds3 hx hm ok hf4 hg4 hlf hlg hfg ht) npmX12_findsWatch rfl (nle rfl) ⟨nle rfl, nle rfl⟩ dX12_watch_59 ?_
                      rintro _ m5 ⟨c5, ⟨rfl, fa, fb, fd, h3, ea, eb, ed⟩ | ⟨rfl, n3⟩⟩
                      · skip
                        have d5 := d4.tr c5
                        rw [q2, e1] at h3
                        have hx := CX12 c5 hx
                        have hm := mdF c5 hm
                        refine go_c1 ?_
                        refine gz_ne (by omega) (tgt := 68) dX12_watch_62 (by decide) (fun h62 => ?_) (fun h62 => by exfalso; omega)
                        refine go_iload (i := 4) rfl dX12_watch_68 ?_
                        refine go_iconst (v := -1) (by decide) dX12_watch_70 ?_
                        refine go_icmp_ne (tgt := 79) dX12_watch_71 (by decide) (fun h71 => ?_) (fun h71 => by exfalso; exact absurd h71 (by decide))
                        refine go_iload (i := 4) rfl dX12_watch_79 ?_
                        refine go_iload (i := 5) rfl dX12_watch_81 ?_
                        refine gn_ge (by omega) (by omega) (tgt := 96) dX12_watch_83 (by decide) (fun h83 => by exfalso; omega) (fun h83 => ?_)
                        refine go_aload_n (q := 0) (i := 0) rfl rfl dX12_watch_86 ?_
                        refine go_getR lf12_158 rfl hx.o hx.r67 dX12_watch_87 ?_
                        refine go_iload (i := 4) rfl dX12_watch_90 ?_
                        refine go_iald (j := 2) hx.i67 (by omega) (by first | decide | omega) rfl dX12_watch_92 ?_
                        refine go_goto (tgt := 97) dX12_watch_93 (by decide) ?_
                        refine go_iret rfl ⟨Nat.zero_le _, Nat.zero_le _⟩ dX12_watch_97 ?_
                        refine ⟨⟨_, rfl, Or.inl ⟨f, g, t, hVd, Or.inr (Or.inr (Or.inr (Or.inl ⟨n0, n1, n2, fun k => if k = 0 then fa else if k = 1 then fb else fd, h3, ?_⟩)))⟩⟩, (RfK.of c1).tr (RfK.fd d5)⟩
                        rw [pck_j (by omega) (by omega)]
                        exact ed
                      · skip
                        have d5 := d4.tr c5
                        have q3 : gI m5 316 = gI m1 316 := (c5.at (by unfold FdA; omega)).trans q2
                        rw [q2, e1] at n3
                        have hx := CX12 c5 hx
                        have hm := mdF c5 hm
                        refine go_c1 ?_
                        refine gz_ne (by omega) (tgt := 68) dX12_watch_62 (by decide) (fun h62 => by exfalso; omega) (fun h62 => ?_)
                        refine go_goto (tgt := 98) dX12_watch_65 (by decide) ?_
                        refine gn_inc (i := 5) (a := ((0 + 1) + 1) + 1) (q := 1) rfl dX12_watch_98 (nle rfl) rfl ?_
                        refine go_goto (tgt := 47) dX12_watch_101 (by decide) ?_
                        refine go_L (L' := [some (.ref 274), some (.int (nI ((nm f)))), some (.int (nI ((nm g)))), some (.int (nI t)), some (.int (nI 2)), some (.int (nI ((((0 + 1) + 1) + 1) + 1)))]) rfl ?_
                        refine go_iload (i := 5) rfl dX12_watch_47 ?_
                        refine go_iconst (v := nI 3) (by decide) dX12_watch_49 ?_
                        refine gn_gt (by omega) (by omega) (tgt := 104) dX12_watch_50 (by decide) (fun h50 => ?_) (fun h50 => by exfalso; omega)
                        refine go_bipush (v := -2) (by decide) dX12_watch_104 ?_
                        refine go_iret rfl ⟨Nat.zero_le _, Nat.zero_le _⟩ dX12_watch_106 ?_
                        exact ⟨⟨_, rfl, Or.inl ⟨f, g, t, hVd, Or.inr (Or.inr (Or.inr (Or.inr ⟨n0, n1, n2, n3, rfl⟩)))⟩⟩, (RfK.of c1).tr (RfK.fd d5)⟩
          · skip
            refine go_aload_n (q := 0) (i := 0) rfl rfl dX12_watch_0 ?_
            refine go_iload_n (q := 1) (i := 1) rfl rfl dX12_watch_1 ?_
            refine go_callV okmX12_isAt lmX12_462 ⟨nle rfl, nle rfl⟩ hx.o ⟨by decide, rfl⟩ (ex_isAt hx hm) npmX12_isAt rfl (nle rfl) ⟨nle rfl, nle rfl⟩ dX12_watch_2 ?_
            rintro _ mz ⟨rfl, hz⟩
            subst mz
            rw [hix]
            refine go_c1 ?_
            refine gz_eq (by omega) (tgt := 38) dX12_watch_5 (by decide) (fun h5 => by exfalso; omega) (fun h5 => ?_)
            refine go_aload_n (q := 0) (i := 0) rfl rfl dX12_watch_8 ?_
            refine go_iload_n (q := 2) (i := 2) rfl rfl dX12_watch_9 ?_
            refine go_callV okmX12_isAt lmX12_462 ⟨nle rfl, nle rfl⟩ hx.o ⟨by decide, rfl⟩ (ex_isAt hx hm) npmX12_isAt rfl (nle rfl) ⟨nle rfl, nle rfl⟩ dX12_watch_10 ?_
            rintro _ mz ⟨rfl, hz⟩
            subst mz
            rw [hiy]
            refine go_c1 ?_
            refine gz_eq (by omega) (tgt := 38) dX12_watch_13 (by decide) (fun h13 => by exfalso; omega) (fun h13 => ?_)
            refine go_iload_n (q := 1) (i := 1) rfl rfl dX12_watch_16 ?_
            refine go_iload_n (q := 2) (i := 2) rfl rfl dX12_watch_17 ?_
            refine gn_eq (by omega) (by omega) (tgt := 38) dX12_watch_18 (by decide) (fun h18 => by exfalso; exact hfg (nm_inj h18).symm) (fun h18 => ?_)
            refine go_iload_n (q := 3) (i := 3) rfl rfl dX12_watch_21 ?_
            refine go_callS okmX12_isThick lmX12_447 ⟨nle rfl, nle rfl⟩ (ex_isThick) npmX12_isThick rfl (nle rfl) ⟨nle rfl, nle rfl⟩ dX12_watch_22 ?_
            rintro _ mz ⟨rfl, hz⟩
            subst mz
            rw [hth]
            refine go_c1 ?_
            refine gz_eq (by omega) (tgt := 38) dX12_watch_25 (by decide) (fun h25 => by exfalso; omega) (fun h25 => ?_)
            refine go_iload (i := 4) rfl dX12_watch_28 ?_
            refine go_iconst (v := -1) (by decide) dX12_watch_30 ?_
            refine go_iconst (v := nI 2) (by decide) dX12_watch_31 ?_
            refine go_callS okmX12_in lmX12_361 ⟨nle rfl, nle rfl⟩ (ex_in) npmX12_in rfl (nle rfl) ⟨nle rfl, nle rfl⟩ dX12_watch_32 ?_
            rintro _ mz ⟨rfl, hz⟩
            subst mz
            rw [iOk_no hio]
            refine go_c1 ?_
            refine gz_ne (by omega) (tgt := 40) dX12_watch_35 (by decide) (fun h35 => by exfalso; omega) (fun h35 => ?_)
            refine go_iconst (v := -1) (by decide) dX12_watch_38 ?_
            refine go_iret rfl ⟨Nat.zero_le _, Nat.zero_le _⟩ dX12_watch_39 ?_
            exact ⟨⟨_, rfl, Or.inr ⟨fun f' g' t' z => hio z.2.2.2.2.2.2.2.2.2, rfl⟩⟩, RfK.rf⟩
