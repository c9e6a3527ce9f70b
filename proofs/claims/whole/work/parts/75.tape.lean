set_option maxRecDepth 100000 in
set_option maxHeartbeats 4000000 in
theorem ev_place {m : Me} {pl dr : Nat} (hX : CX m.1 (gR m) pl dr) : Ev mX11_place [.ref 0] m (fun o m' => o = some (.int (gI m 3 7)) ∧ m' = m) := by
  refine ⟨plmX11_place, nle rfl, ?_⟩
  refine go_aload_n (q := 0) (i := 0) rfl rfl dX11_place_0 ?_
  refine go_getR lf11_19 rfl hX.o hX.r1 dX11_place_1 ?_
  refine go_getI lf11_123 rfl hX.w1.o dX11_place_4 ?_
  refine go_iret rfl ⟨Nat.zero_le _, Nat.zero_le _⟩ dX11_place_7 ?_
  exact ⟨rfl, rfl⟩
set_option maxRecDepth 100000 in
set_option maxHeartbeats 4000000 in
theorem ex_place {m : Me} (hx : Wf12 m.1 (gR m)) : Ev mX12_place [.ref 274] m (fun o m' => o = some (.int (gI m 274 17)) ∧ m' = m) := by
  refine ⟨plmX12_place, nle rfl, ?_⟩
  refine go_aload_n (q := 0) (i := 0) rfl rfl dX12_place_0 ?_
  refine go_getI lf12_37 rfl hx.o dX12_place_1 ?_
  refine go_iret rfl ⟨Nat.zero_le _, Nat.zero_le _⟩ dX12_place_4 ?_
  exact ⟨rfl, rfl⟩
set_option maxRecDepth 100000 in
set_option maxHeartbeats 4000000 in
theorem ev_forget {m : Me} {pl dr : Nat} (hX : CX m.1 (gR m) pl dr) : Ev mX11_forget [.ref 0] m (fun o m' => o = some (.int (gI m 211 3)) ∧ m' = sI m 211 (upd (gI m 211) 3 (nI 0))) := by
  refine ⟨plmX11_forget, nle rfl, ?_⟩
  refine go_aload_n (q := 0) (i := 0) rfl rfl dX11_forget_0 ?_
  refine go_getR lf11_72 rfl hX.o hX.r10 dX11_forget_1 ?_
  refine go_getI lf11_278 rfl hX.w10.o dX11_forget_4 ?_
  refine go_istore_n (q := 1) (i := 1) rfl dX11_forget_7 (nle rfl) (nle rfl) ?_
  refine go_aload_n (q := 0) (i := 0) rfl rfl dX11_forget_8 ?_
  refine go_getR lf11_72 rfl hX.o hX.r10 dX11_forget_9 ?_
  refine go_iconst (v := nI 0) (by decide) dX11_forget_12 ?_
  refine go_putI lf11_278 rfl (Or.inl rfl) hX.w10.o dX11_forget_13 ?_
  refine go_iload_n (q := 1) (i := 1) rfl rfl dX11_forget_16 ?_
  refine go_iret rfl ⟨Nat.zero_le _, Nat.zero_le _⟩ dX11_forget_17 ?_
  exact ⟨rfl, rfl⟩
set_option maxRecDepth 100000 in
set_option maxHeartbeats 4000000 in
theorem ex_forget {m : Me} (hx : Wf12 m.1 (gR m)) : Ev mX12_forget [.ref 274] m (fun o m' => o = some (.int (gI m 274 68)) ∧ m' = sI m 274 (upd (gI m 274) 68 (nI 0))) := by
  refine ⟨plmX12_forget, nle rfl, ?_⟩
  refine go_aload_n (q := 0) (i := 0) rfl rfl dX12_forget_0 ?_
  refine go_getI lf12_289 rfl hx.o dX12_forget_1 ?_
  refine go_istore_n (q := 1) (i := 1) rfl dX12_forget_4 (nle rfl) (nle rfl) ?_
  refine go_aload_n (q := 0) (i := 0) rfl rfl dX12_forget_5 ?_
  refine go_iconst (v := nI 0) (by decide) dX12_forget_6 ?_
  refine go_putI lf12_289 rfl (Or.inl rfl) hx.o dX12_forget_7 ?_
  refine go_iload_n (q := 1) (i := 1) rfl rfl dX12_forget_10 ?_
  refine go_iret rfl ⟨Nat.zero_le _, Nat.zero_le _⟩ dX12_forget_11 ?_
  exact ⟨rfl, rfl⟩
set_option maxRecDepth 100000 in
set_option maxHeartbeats 4000000 in
theorem ev_add {m : Me} {t : Nat} {c h f : Int32} (hh : Wf4 m.1 (gR m) 211) (ht : t < 20) (h3 : gI m 211 3 = nI t) : Ev mX4_add [.ref 211, .int c, .int h, .int f] m (fun o m' => o = some (.int (nI t)) ∧ Ch (fun y => 211 ≤ y ∧ y ≤ 214) m m' ∧ gI m' 211 3 = nI (t + 1) ∧ gI m' 212 = upd (gI m 212) t c ∧ gI m' 213 = upd (gI m 213) t h ∧ gI m' 214 = upd (gI m 214) t f) := by
  refine ⟨plmX4_add, nle rfl, ?_⟩
  refine go_aload_n (q := 0) (i := 0) rfl rfl dX4_add_0 ?_
  refine go_getI lf4_38 rfl hh.o dX4_add_1 ?_
  rw [h3]
  refine gz_lt (by omega) (tgt := 16) dX4_add_4 (by decide) (fun h4 => by exfalso; omega) (fun h4 => ?_)
  refine go_aload_n (q := 0) (i := 0) rfl rfl dX4_add_7 ?_
  refine go_getI lf4_38 rfl hh.o dX4_add_8 ?_
  rw [h3]
  refine go_bipush (v := nI 20) (by decide) dX4_add_11 ?_
  refine gn_lt (by omega) (by omega) (tgt := 18) dX4_add_13 (by decide) (fun h13 => ?_) (fun h13 => by exfalso; omega)
  refine go_aload_n (q := 0) (i := 0) rfl rfl dX4_add_18 ?_
  refine go_getR lf4_9 rfl hh.o hh.r0 dX4_add_19 ?_
  refine go_aload_n (q := 0) (i := 0) rfl rfl dX4_add_22 ?_
  refine go_getI lf4_38 rfl hh.o dX4_add_23 ?_
  rw [h3]
  refine go_iload_n (q := 1) (i := 1) rfl rfl dX4_add_26 ?_
  refine go_iast (j := t) hh.i0 (by omega) (by first | decide | omega) rfl dX4_add_27 ?_
  refine go_aload_n (q := 0) (i := 0) rfl rfl dX4_add_28 ?_
  refine go_getR lf4_15 rfl hh.o hh.r1 dX4_add_29 ?_
  refine go_aload_n (q := 0) (i := 0) rfl rfl dX4_add_32 ?_
  refine go_getI lf4_38 rfl hh.o dX4_add_33 ?_
  rw [gI_n (by decide), h3]
  refine go_iload_n (q := 2) (i := 2) rfl rfl dX4_add_36 ?_
  refine go_iast (j := t) hh.i1 (by omega) (by first | decide | omega) rfl dX4_add_37 ?_
  refine go_aload_n (q := 0) (i := 0) rfl rfl dX4_add_38 ?_
  refine go_getR lf4_18 rfl hh.o hh.r2 dX4_add_39 ?_
  refine go_aload_n (q := 0) (i := 0) rfl rfl dX4_add_42 ?_
  refine go_getI lf4_38 rfl hh.o dX4_add_43 ?_
  rw [gI_n (by decide), gI_n (by decide), h3]
  refine go_iload_n (q := 3) (i := 3) rfl rfl dX4_add_46 ?_
  refine go_iast (j := t) hh.i2 (by omega) (by first | decide | omega) rfl dX4_add_47 ?_
  refine go_aload_n (q := 0) (i := 0) rfl rfl dX4_add_48 ?_
  refine go_dup rfl dX4_add_49 ?_
  refine go_getI lf4_38 rfl hh.o dX4_add_50 ?_
  rw [gI_n (by decide), gI_n (by decide), gI_n (by decide), h3]
  refine go_iconst (v := nI 1) (by decide) dX4_add_53 ?_
  refine gn_add dX4_add_54 ?_
  refine go_putI lf4_38 rfl (Or.inl rfl) hh.o dX4_add_55 ?_
  refine go_aload_n (q := 0) (i := 0) rfl rfl dX4_add_58 ?_
  refine go_getI lf4_38 rfl hh.o dX4_add_59 ?_
  rw [gI_s, upd_eq]
  refine go_iconst (v := nI 1) (by decide) dX4_add_62 ?_
  refine gn_sub (by omega) dX4_add_63 ?_
  refine go_iret rfl ⟨Nat.zero_le _, Nat.zero_le _⟩ dX4_add_64 ?_
  refine ⟨by rw [show t + 1 - 1 = t by omega], ?_, ?_, ?_, ?_, ?_⟩
  · exact Ch.i (Ch.i (Ch.i (Ch.i Ch.rf (by omega)) (by omega)) (by omega)) (by omega)
  · rw [gI_s, upd_eq]
  · rw [gI_n (by decide), gI_n (by decide), gI_n (by decide), gI_s]
  · rw [gI_n (by decide), gI_n (by decide), gI_s, gI_n (by decide)]
  · rw [gI_n (by decide), gI_s, gI_n (by decide), gI_n (by decide)]
set_option maxRecDepth 100000 in
set_option maxHeartbeats 4000000 in
theorem ev_add0 {m : Me} {c h f : Int32} (hh : Wf4 m.1 (gR m) 211) (h3 : gI m 211 3 = nI 20) : Ev mX4_add [.ref 211, .int c, .int h, .int f] m (fun o m' => o = some (.int (-1)) ∧ m' = m) := by
  refine ⟨plmX4_add, nle rfl, ?_⟩
  refine go_aload_n (q := 0) (i := 0) rfl rfl dX4_add_0 ?_
  refine go_getI lf4_38 rfl hh.o dX4_add_1 ?_
  rw [h3]
  refine gz_lt (by omega) (tgt := 16) dX4_add_4 (by decide) (fun h4 => by exfalso; omega) (fun h4 => ?_)
  refine go_aload_n (q := 0) (i := 0) rfl rfl dX4_add_7 ?_
  refine go_getI lf4_38 rfl hh.o dX4_add_8 ?_
  rw [h3]
  refine go_bipush (v := nI 20) (by decide) dX4_add_11 ?_
  refine gn_lt (by omega) (by omega) (tgt := 18) dX4_add_13 (by decide) (fun h13 => by exfalso; omega) (fun h13 => ?_)
  refine go_iconst (v := -1) (by decide) dX4_add_16 ?_
  refine go_iret rfl ⟨Nat.zero_le _, Nat.zero_le _⟩ dX4_add_17 ?_
  exact ⟨rfl, rfl⟩
/-- what may be told -/
def TlO (P : Pl) (x y n f : Int32) : Prop := (¬ ceS P x y < 0 ∧ inS n (nI 0) (nI 24) = nI 1) ∧ inS f (nI 0) (nI 99) = nI 1
theorem gt_in {v : Int32} {N : Nat} (hN : N < 2 ^ 31) (h : inS v (nI 0) (nI N) = nI 0) (h1 : ¬ v < 0) (h2 : v ≤ nI N) : False :=
  absurd (h.symm.trans (in_yes (by rw [nI_0]; exact h1) (Int32.not_lt.mpr h2))) (by decide)
set_option maxRecDepth 100000 in
set_option maxHeartbeats 8000000 in
theorem ev_tell {m : Me} {pl dr : Nat} {P : Pl} (hX : CX m.1 (gR m) pl dr) (hP : PlC m pl P) (ok : PlOk P) {x y n th : Int32} {t : Nat} (ht : t < 20) (h3 : gI m 211 3 = nI t) : Ev mX11_tell [.ref 0, .int x, .int y, .int n, .int th] m (fun o m' => (TlO P x y n th ∧ (∃ a b j t9, a < P.wd ∧ b < P.rw ∧ j ≤ 24 ∧ t9 ≤ 99 ∧ x = nI a ∧ y = nI b ∧ n = nI j ∧ th = nI t9 ∧ (o = some (.int (nI t)) ∧ Ch (fun y => 211 ≤ y ∧ y ≤ 214) m m' ∧ gI m' 211 3 = nI (t + 1) ∧ gI m' 212 = upd (gI m 212) t (nI (8 * b + a)) ∧ gI m' 213 = upd (gI m 213) t (nI j) ∧ gI m' 214 = upd (gI m 214) t (nI t9)))) ∨ (¬ TlO P x y n th ∧ o = some (.int (-1)) ∧ m' = m)) := by
  refine ⟨plmX11_tell, nle rfl, ?_⟩
  have hw8 := ok.1
  have hr5 := ok.2.1
  have hpd := hX.pd
  rcases ce_c ok x y with ⟨hca, hic⟩ | ⟨a, b, ha, hb, rfl, rfl, hca, hic⟩
  · skip
    refine go_aload_n (q := 0) (i := 0) rfl rfl dX11_tell_0 ?_
    refine go_getR lf11_86 rfl hX.o hX.rp dX11_tell_1 ?_
    refine go_iload_n (q := 1) (i := 1) rfl rfl dX11_tell_4 ?_
    refine go_iload_n (q := 2) (i := 2) rfl rfl dX11_tell_5 ?_
    refine go_callV okmX7_cellAt lmX11_126 ⟨nle rfl, nle rfl⟩ hX.wp.o ⟨by decide, rfl⟩ (ev_cellAt hX.wp) npmX7_cellAt rfl (nle rfl) ⟨nle rfl, nle rfl⟩ dX11_tell_6 ?_
    rintro _ mz ⟨rfl, hz⟩
    subst mz
    rw [hP.wd, hP.rw, show caS (nI P.wd) (nI P.rw) _ _ = _ from hca]
    refine go_c1 ?_
    refine go_istore (i := 5) dX11_tell_9 (nle rfl) (nle rfl) ?_
    refine go_iload (i := 5) rfl dX11_tell_11 ?_
    refine go_if_lt (tgt := 34) dX11_tell_13 (by decide) (fun h13 => ?_) (fun h13 => by exfalso; exact h13 (by decide))
    refine go_iconst (v := -1) (by decide) dX11_tell_34 ?_
    refine go_iret rfl ⟨Nat.zero_le _, Nat.zero_le _⟩ dX11_tell_35 ?_
    exact Or.inr ⟨fun z => z.1.1 (by rw [hca]; decide), rfl, rfl⟩
  · skip
    rcases in_c n (N := 24) (by decide) with hn | ⟨j, hj, rfl, hn⟩
    · skip
      refine go_aload_n (q := 0) (i := 0) rfl rfl dX11_tell_0 ?_
      refine go_getR lf11_86 rfl hX.o hX.rp dX11_tell_1 ?_
      refine go_iload_n (q := 1) (i := 1) rfl rfl dX11_tell_4 ?_
      refine go_iload_n (q := 2) (i := 2) rfl rfl dX11_tell_5 ?_
      refine go_callV okmX7_cellAt lmX11_126 ⟨nle rfl, nle rfl⟩ hX.wp.o ⟨by decide, rfl⟩ (ev_cellAt hX.wp) npmX7_cellAt rfl (nle rfl) ⟨nle rfl, nle rfl⟩ dX11_tell_6 ?_
      rintro _ mz ⟨rfl, hz⟩
      subst mz
      rw [hP.wd, hP.rw, show caS (nI P.wd) (nI P.rw) _ _ = _ from hca]
      refine go_c1 ?_
      refine go_istore (i := 5) dX11_tell_9 (nle rfl) (nle rfl) ?_
      refine go_iload (i := 5) rfl dX11_tell_11 ?_
      refine gz_lt (by omega) (tgt := 34) dX11_tell_13 (by decide) (fun h13 => by exfalso; omega) (fun h13 => ?_)
      refine go_iload_n (q := 3) (i := 3) rfl rfl dX11_tell_16 ?_
      refine go_if_lt (tgt := 34) dX11_tell_17 (by decide) (fun h17 => ?_) (fun h17 => ?_)
      · skip
        refine go_iconst (v := -1) (by decide) dX11_tell_34 ?_
        refine go_iret rfl ⟨Nat.zero_le _, Nat.zero_le _⟩ dX11_tell_35 ?_
        exact Or.inr ⟨fun z => absurd (hn.symm.trans z.1.2) (by decide), rfl, rfl⟩
      · skip
        refine go_iload_n (q := 3) (i := 3) rfl rfl dX11_tell_20 ?_
        refine go_bipush (v := nI 24) (by decide) dX11_tell_21 ?_
        refine go_icmp_gt (tgt := 34) dX11_tell_23 (by decide) (fun h23 => ?_) (fun h23 => by exfalso; exact gt_in (by decide) hn h17 (Int32.not_lt.mp h23))
        refine go_iconst (v := -1) (by decide) dX11_tell_34 ?_
        refine go_iret rfl ⟨Nat.zero_le _, Nat.zero_le _⟩ dX11_tell_35 ?_
        exact Or.inr ⟨fun z => absurd (hn.symm.trans z.1.2) (by decide), rfl, rfl⟩
    · skip
      rcases in_c th (N := 99) (by decide) with hth | ⟨t9, ht9, rfl, hth⟩
      · skip
        refine go_aload_n (q := 0) (i := 0) rfl rfl dX11_tell_0 ?_
        refine go_getR lf11_86 rfl hX.o hX.rp dX11_tell_1 ?_
        refine go_iload_n (q := 1) (i := 1) rfl rfl dX11_tell_4 ?_
        refine go_iload_n (q := 2) (i := 2) rfl rfl dX11_tell_5 ?_
        refine go_callV okmX7_cellAt lmX11_126 ⟨nle rfl, nle rfl⟩ hX.wp.o ⟨by decide, rfl⟩ (ev_cellAt hX.wp) npmX7_cellAt rfl (nle rfl) ⟨nle rfl, nle rfl⟩ dX11_tell_6 ?_
        rintro _ mz ⟨rfl, hz⟩
        subst mz
        rw [hP.wd, hP.rw, show caS (nI P.wd) (nI P.rw) _ _ = _ from hca]
        refine go_c1 ?_
        refine go_istore (i := 5) dX11_tell_9 (nle rfl) (nle rfl) ?_
        refine go_iload (i := 5) rfl dX11_tell_11 ?_
        refine gz_lt (by omega) (tgt := 34) dX11_tell_13 (by decide) (fun h13 => by exfalso; omega) (fun h13 => ?_)
        refine go_iload_n (q := 3) (i := 3) rfl rfl dX11_tell_16 ?_
        refine gz_lt (by omega) (tgt := 34) dX11_tell_17 (by decide) (fun h17 => by exfalso; omega) (fun h17 => ?_)
        refine go_iload_n (q := 3) (i := 3) rfl rfl dX11_tell_20 ?_
        refine go_bipush (v := nI 24) (by decide) dX11_tell_21 ?_
        refine gn_gt (by omega) (by omega) (tgt := 34) dX11_tell_23 (by decide) (fun h23 => by exfalso; omega) (fun h23 => ?_)
        refine go_iload (i := 4) rfl dX11_tell_26 ?_
        refine go_callS okmX11_isThick lmX11_235 ⟨nle rfl, nle rfl⟩ (ev_isThick) npmX11_isThick rfl (nle rfl) ⟨nle rfl, nle rfl⟩ dX11_tell_28 ?_
        rintro _ mz ⟨rfl, hz⟩
        subst mz
        rw [th_in, hth]
        refine go_c1 ?_
        refine gz_ne (by omega) (tgt := 36) dX11_tell_31 (by decide) (fun h31 => by exfalso; omega) (fun h31 => ?_)
        refine go_iconst (v := -1) (by decide) dX11_tell_34 ?_
        refine go_iret rfl ⟨Nat.zero_le _, Nat.zero_le _⟩ dX11_tell_35 ?_
        exact Or.inr ⟨fun z => absurd (hth.symm.trans z.2) (by decide), rfl, rfl⟩
      · skip
        refine go_aload_n (q := 0) (i := 0) rfl rfl dX11_tell_0 ?_
        refine go_getR lf11_86 rfl hX.o hX.rp dX11_tell_1 ?_
        refine go_iload_n (q := 1) (i := 1) rfl rfl dX11_tell_4 ?_
        refine go_iload_n (q := 2) (i := 2) rfl rfl dX11_tell_5 ?_
        refine go_callV okmX7_cellAt lmX11_126 ⟨nle rfl, nle rfl⟩ hX.wp.o ⟨by decide, rfl⟩ (ev_cellAt hX.wp) npmX7_cellAt rfl (nle rfl) ⟨nle rfl, nle rfl⟩ dX11_tell_6 ?_
        rintro _ mz ⟨rfl, hz⟩
        subst mz
        rw [hP.wd, hP.rw, show caS (nI P.wd) (nI P.rw) _ _ = _ from hca]
        refine go_c1 ?_
        refine go_istore (i := 5) dX11_tell_9 (nle rfl) (nle rfl) ?_
        refine go_iload (i := 5) rfl dX11_tell_11 ?_
        refine gz_lt (by omega) (tgt := 34) dX11_tell_13 (by decide) (fun h13 => by exfalso; omega) (fun h13 => ?_)
        refine go_iload_n (q := 3) (i := 3) rfl rfl dX11_tell_16 ?_
        refine gz_lt (by omega) (tgt := 34) dX11_tell_17 (by decide) (fun h17 => by exfalso; omega) (fun h17 => ?_)
        refine go_iload_n (q := 3) (i := 3) rfl rfl dX11_tell_20 ?_
        refine go_bipush (v := nI 24) (by decide) dX11_tell_21 ?_
        refine gn_gt (by omega) (by omega) (tgt := 34) dX11_tell_23 (by decide) (fun h23 => by exfalso; omega) (fun h23 => ?_)
        refine go_iload (i := 4) rfl dX11_tell_26 ?_
        refine go_callS okmX11_isThick lmX11_235 ⟨nle rfl, nle rfl⟩ (ev_isThick) npmX11_isThick rfl (nle rfl) ⟨nle rfl, nle rfl⟩ dX11_tell_28 ?_
        rintro _ mz ⟨rfl, hz⟩
        subst mz
        rw [th_in, hth]
        refine go_c1 ?_
        refine gz_ne (by omega) (tgt := 36) dX11_tell_31 (by decide) (fun h31 => ?_) (fun h31 => by exfalso; omega)
        refine go_aload_n (q := 0) (i := 0) rfl rfl dX11_tell_36 ?_
        refine go_getR lf11_72 rfl hX.o hX.r10 dX11_tell_37 ?_
        refine go_iload (i := 5) rfl dX11_tell_40 ?_
        refine go_iload_n (q := 3) (i := 3) rfl rfl dX11_tell_42 ?_
        refine go_iload (i := 4) rfl dX11_tell_43 ?_
        refine go_callV okmX4_add lmX11_274 ⟨nle rfl, nle rfl⟩ hX.w10.o ⟨by decide, rfl⟩ (ev_add hX.w10 ht h3) npmX4_add rfl (nle rfl) ⟨nle rfl, nle rfl⟩ dX11_tell_45 ?_
        rintro _ m1 ⟨rfl, hA⟩
        refine go_c1 ?_
        refine go_iret rfl ⟨Nat.zero_le _, Nat.zero_le _⟩ dX11_tell_48 ?_
        exact Or.inl ⟨⟨⟨by rw [hca]; exact nI_pos (by omega), hn⟩, hth⟩, a, b, j, t9, ha, hb, hj, ht9, rfl, rfl, rfl, rfl, rfl, hA⟩
set_option maxRecDepth 100000 in
set_option maxHeartbeats 8000000 in
theorem ev_tell0 {m : Me} {pl dr : Nat} {P : Pl} (hX : CX m.1 (gR m) pl dr) (hP : PlC m pl P) (ok : PlOk P) {x y n th : Int32} (h3 : gI m 211 3 = nI 20) : Ev mX11_tell [.ref 0, .int x, .int y, .int n, .int th] m (fun o m' => o = some (.int (-1)) ∧ m' = m) := by
  refine ⟨plmX11_tell, nle rfl, ?_⟩
  have hw8 := ok.1
  have hr5 := ok.2.1
  have hpd := hX.pd
  rcases ce_c ok x y with ⟨hca, hic⟩ | ⟨a, b, ha, hb, rfl, rfl, hca, hic⟩
  · skip
    refine go_aload_n (q := 0) (i := 0) rfl rfl dX11_tell_0 ?_
    refine go_getR lf11_86 rfl hX.o hX.rp dX11_tell_1 ?_
    refine go_iload_n (q := 1) (i := 1) rfl rfl dX11_tell_4 ?_
    refine go_iload_n (q := 2) (i := 2) rfl rfl dX11_tell_5 ?_
    refine go_callV okmX7_cellAt lmX11_126 ⟨nle rfl, nle rfl⟩ hX.wp.o ⟨by decide, rfl⟩ (ev_cellAt hX.wp) npmX7_cellAt rfl (nle rfl) ⟨nle rfl, nle rfl⟩ dX11_tell_6 ?_
    rintro _ mz ⟨rfl, hz⟩
    subst mz
    rw [hP.wd, hP.rw, show caS (nI P.wd) (nI P.rw) _ _ = _ from hca]
    refine go_c1 ?_
    refine go_istore (i := 5) dX11_tell_9 (nle rfl) (nle rfl) ?_
    refine go_iload (i := 5) rfl dX11_tell_11 ?_
    refine go_if_lt (tgt := 34) dX11_tell_13 (by decide) (fun h13 => ?_) (fun h13 => by exfalso; exact h13 (by decide))
    refine go_iconst (v := -1) (by decide) dX11_tell_34 ?_
    refine go_iret rfl ⟨Nat.zero_le _, Nat.zero_le _⟩ dX11_tell_35 ?_
    exact ⟨rfl, rfl⟩
  · skip
    rcases in_c n (N := 24) (by decide) with hn | ⟨j, hj, rfl, hn⟩
    · skip
      refine go_aload_n (q := 0) (i := 0) rfl rfl dX11_tell_0 ?_
      refine go_getR lf11_86 rfl hX.o hX.rp dX11_tell_1 ?_
      refine go_iload_n (q := 1) (i := 1) rfl rfl dX11_tell_4 ?_
      refine go_iload_n (q := 2) (i := 2) rfl rfl dX11_tell_5 ?_
      refine go_callV okmX7_cellAt lmX11_126 ⟨nle rfl, nle rfl⟩ hX.wp.o ⟨by decide, rfl⟩ (ev_cellAt hX.wp) npmX7_cellAt rfl (nle rfl) ⟨nle rfl, nle rfl⟩ dX11_tell_6 ?_
      rintro _ mz ⟨rfl, hz⟩
      subst mz
      rw [hP.wd, hP.rw, show caS (nI P.wd) (nI P.rw) _ _ = _ from hca]
      refine go_c1 ?_
      refine go_istore (i := 5) dX11_tell_9 (nle rfl) (nle rfl) ?_
      refine go_iload (i := 5) rfl dX11_tell_11 ?_
      refine gz_lt (by omega) (tgt := 34) dX11_tell_13 (by decide) (fun h13 => by exfalso; omega) (fun h13 => ?_)
      refine go_iload_n (q := 3) (i := 3) rfl rfl dX11_tell_16 ?_
      refine go_if_lt (tgt := 34) dX11_tell_17 (by decide) (fun h17 => ?_) (fun h17 => ?_)
      · skip
        refine go_iconst (v := -1) (by decide) dX11_tell_34 ?_
        refine go_iret rfl ⟨Nat.zero_le _, Nat.zero_le _⟩ dX11_tell_35 ?_
        exact ⟨rfl, rfl⟩
      · skip
        refine go_iload_n (q := 3) (i := 3) rfl rfl dX11_tell_20 ?_
        refine go_bipush (v := nI 24) (by decide) dX11_tell_21 ?_
        refine go_icmp_gt (tgt := 34) dX11_tell_23 (by decide) (fun h23 => ?_) (fun h23 => by exfalso; exact gt_in (by decide) hn h17 (Int32.not_lt.mp h23))
        refine go_iconst (v := -1) (by decide) dX11_tell_34 ?_
        refine go_iret rfl ⟨Nat.zero_le _, Nat.zero_le _⟩ dX11_tell_35 ?_
        exact ⟨rfl, rfl⟩
    · skip
      rcases in_c th (N := 99) (by decide) with hth | ⟨t9, ht9, rfl, hth⟩
      · skip
        refine go_aload_n (q := 0) (i := 0) rfl rfl dX11_tell_0 ?_
        refine go_getR lf11_86 rfl hX.o hX.rp dX11_tell_1 ?_
        refine go_iload_n (q := 1) (i := 1) rfl rfl dX11_tell_4 ?_
        refine go_iload_n (q := 2) (i := 2) rfl rfl dX11_tell_5 ?_
        refine go_callV okmX7_cellAt lmX11_126 ⟨nle rfl, nle rfl⟩ hX.wp.o ⟨by decide, rfl⟩ (ev_cellAt hX.wp) npmX7_cellAt rfl (nle rfl) ⟨nle rfl, nle rfl⟩ dX11_tell_6 ?_
        rintro _ mz ⟨rfl, hz⟩
        subst mz
        rw [hP.wd, hP.rw, show caS (nI P.wd) (nI P.rw) _ _ = _ from hca]
        refine go_c1 ?_
        refine go_istore (i := 5) dX11_tell_9 (nle rfl) (nle rfl) ?_
        refine go_iload (i := 5) rfl dX11_tell_11 ?_
        refine gz_lt (by omega) (tgt := 34) dX11_tell_13 (by decide) (fun h13 => by exfalso; omega) (fun h13 => ?_)
        refine go_iload_n (q := 3) (i := 3) rfl rfl dX11_tell_16 ?_
        refine gz_lt (by omega) (tgt := 34) dX11_tell_17 (by decide) (fun h17 => by exfalso; omega) (fun h17 => ?_)
        refine go_iload_n (q := 3) (i := 3) rfl rfl dX11_tell_20 ?_
        refine go_bipush (v := nI 24) (by decide) dX11_tell_21 ?_
        refine gn_gt (by omega) (by omega) (tgt := 34) dX11_tell_23 (by decide) (fun h23 => by exfalso; omega) (fun h23 => ?_)
        refine go_iload (i := 4) rfl dX11_tell_26 ?_
        refine go_callS okmX11_isThick lmX11_235 ⟨nle rfl, nle rfl⟩ (ev_isThick) npmX11_isThick rfl (nle rfl) ⟨nle rfl, nle rfl⟩ dX11_tell_28 ?_
        rintro _ mz ⟨rfl, hz⟩
        subst mz
        rw [th_in, hth]
        refine go_c1 ?_
        refine gz_ne (by omega) (tgt := 36) dX11_tell_31 (by decide) (fun h31 => by exfalso; omega) (fun h31 => ?_)
        refine go_iconst (v := -1) (by decide) dX11_tell_34 ?_
        refine go_iret rfl ⟨Nat.zero_le _, Nat.zero_le _⟩ dX11_tell_35 ?_
        exact ⟨rfl, rfl⟩
      · skip
        refine go_aload_n (q := 0) (i := 0) rfl rfl dX11_tell_0 ?_
        refine go_getR lf11_86 rfl hX.o hX.rp dX11_tell_1 ?_
        refine go_iload_n (q := 1) (i := 1) rfl rfl dX11_tell_4 ?_
        refine go_iload_n (q := 2) (i := 2) rfl rfl dX11_tell_5 ?_
        refine go_callV okmX7_cellAt lmX11_126 ⟨nle rfl, nle rfl⟩ hX.wp.o ⟨by decide, rfl⟩ (ev_cellAt hX.wp) npmX7_cellAt rfl (nle rfl) ⟨nle rfl, nle rfl⟩ dX11_tell_6 ?_
        rintro _ mz ⟨rfl, hz⟩
        subst mz
        rw [hP.wd, hP.rw, show caS (nI P.wd) (nI P.rw) _ _ = _ from hca]
        refine go_c1 ?_
        refine go_istore (i := 5) dX11_tell_9 (nle rfl) (nle rfl) ?_
        refine go_iload (i := 5) rfl dX11_tell_11 ?_
        refine gz_lt (by omega) (tgt := 34) dX11_tell_13 (by decide) (fun h13 => by exfalso; omega) (fun h13 => ?_)
        refine go_iload_n (q := 3) (i := 3) rfl rfl dX11_tell_16 ?_
        refine gz_lt (by omega) (tgt := 34) dX11_tell_17 (by decide) (fun h17 => by exfalso; omega) (fun h17 => ?_)
        refine go_iload_n (q := 3) (i := 3) rfl rfl dX11_tell_20 ?_
        refine go_bipush (v := nI 24) (by decide) dX11_tell_21 ?_
        refine gn_gt (by omega) (by omega) (tgt := 34) dX11_tell_23 (by decide) (fun h23 => by exfalso; omega) (fun h23 => ?_)
        refine go_iload (i := 4) rfl dX11_tell_26 ?_
        refine go_callS okmX11_isThick lmX11_235 ⟨nle rfl, nle rfl⟩ (ev_isThick) npmX11_isThick rfl (nle rfl) ⟨nle rfl, nle rfl⟩ dX11_tell_28 ?_
        rintro _ mz ⟨rfl, hz⟩
        subst mz
        rw [th_in, hth]
        refine go_c1 ?_
        refine gz_ne (by omega) (tgt := 36) dX11_tell_31 (by decide) (fun h31 => ?_) (fun h31 => by exfalso; omega)
        refine go_aload_n (q := 0) (i := 0) rfl rfl dX11_tell_36 ?_
        refine go_getR lf11_72 rfl hX.o hX.r10 dX11_tell_37 ?_
        refine go_iload (i := 5) rfl dX11_tell_40 ?_
        refine go_iload_n (q := 3) (i := 3) rfl rfl dX11_tell_42 ?_
        refine go_iload (i := 4) rfl dX11_tell_43 ?_
        refine go_callV okmX4_add lmX11_274 ⟨nle rfl, nle rfl⟩ hX.w10.o ⟨by decide, rfl⟩ (ev_add0 hX.w10 h3) npmX4_add rfl (nle rfl) ⟨nle rfl, nle rfl⟩ dX11_tell_45 ?_
        rintro _ m1 ⟨rfl, hA⟩
        refine go_c1 ?_
        refine go_iret rfl ⟨Nat.zero_le _, Nat.zero_le _⟩ dX11_tell_48 ?_
        exact ⟨rfl, hA⟩
set_option maxRecDepth 100000 in
set_option maxHeartbeats 8000000 in
theorem ex_tell {m : Me} {P : Pl} {lv : Nat} (hx : Wf12 m.1 (gR m)) (hm : MdC m P lv) (ok : PlOk P) {x y n th : Int32} {t : Nat} (ht : t < 20) (h3 : gI m 274 68 = nI t) : Ev mX12_tell [.ref 274, .int x, .int y, .int n, .int th] m (fun o m' => (TlO P x y n th ∧ (∃ a b j t9, a < P.wd ∧ b < P.rw ∧ j ≤ 24 ∧ t9 ≤ 99 ∧ x = nI a ∧ y = nI b ∧ n = nI j ∧ th = nI t9 ∧ (o = some (.int (nI t)) ∧ Ch (fun y => y = 274 ∨ (322 ≤ y ∧ y ≤ 324)) m m' ∧ (∀ k, k ≠ 68 → gI m' 274 k = gI m 274 k) ∧ gI m' 274 68 = nI (t + 1) ∧ gI m' 322 = upd (gI m 322) t (nI (8 * b + a)) ∧ gI m' 323 = upd (gI m 323) t (nI j) ∧ gI m' 324 = upd (gI m 324) t (nI t9)))) ∨ (¬ TlO P x y n th ∧ o = some (.int (-1)) ∧ m' = m)) := by
  refine ⟨plmX12_tell, nle rfl, ?_⟩
  have hw8 := ok.1
  have hr5 := ok.2.1
  have hlv := hm.lv
  rcases ce_c ok x y with ⟨hca, hic⟩ | ⟨a, b, ha, hb, rfl, rfl, hca, hic⟩
  · skip
    refine go_aload_n (q := 0) (i := 0) rfl rfl dX12_tell_0 ?_
    refine go_getI lf12_289 rfl hx.o dX12_tell_1 ?_
    rw [h3]
    refine go_bipush (v := nI 20) (by decide) dX12_tell_4 ?_
    refine gn_eq (by omega) (by omega) (tgt := 39) dX12_tell_6 (by decide) (fun h6 => by exfalso; omega) (fun h6 => ?_)
    refine go_aload_n (q := 0) (i := 0) rfl rfl dX12_tell_9 ?_
    refine go_iload_n (q := 1) (i := 1) rfl rfl dX12_tell_10 ?_
    refine go_iload_n (q := 2) (i := 2) rfl rfl dX12_tell_11 ?_
    refine go_callV okmX12_isCell lmX12_394 ⟨nle rfl, nle rfl⟩ hx.o ⟨by decide, rfl⟩ (ex_isCell hx hm) npmX12_isCell rfl (nle rfl) ⟨nle rfl, nle rfl⟩ dX12_tell_12 ?_
    rintro _ mz ⟨rfl, hz⟩
    subst mz
    rw [hic]
    refine go_c1 ?_
    refine gz_eq (by omega) (tgt := 39) dX12_tell_15 (by decide) (fun h15 => ?_) (fun h15 => by exfalso; omega)
    refine go_iconst (v := -1) (by decide) dX12_tell_39 ?_
    refine go_iret rfl ⟨Nat.zero_le _, Nat.zero_le _⟩ dX12_tell_40 ?_
    exact Or.inr ⟨fun z => z.1.1 (by rw [hca]; decide), rfl, rfl⟩
  · skip
    rcases in_c n (N := 24) (by decide) with hn | ⟨j, hj, rfl, hn⟩
    · skip
      refine go_aload_n (q := 0) (i := 0) rfl rfl dX12_tell_0 ?_
      refine go_getI lf12_289 rfl hx.o dX12_tell_1 ?_
      rw [h3]
      refine go_bipush (v := nI 20) (by decide) dX12_tell_4 ?_
      refine gn_eq (by omega) (by omega) (tgt := 39) dX12_tell_6 (by decide) (fun h6 => by exfalso; omega) (fun h6 => ?_)
      refine go_aload_n (q := 0) (i := 0) rfl rfl dX12_tell_9 ?_
      refine go_iload_n (q := 1) (i := 1) rfl rfl dX12_tell_10 ?_
      refine go_iload_n (q := 2) (i := 2) rfl rfl dX12_tell_11 ?_
      refine go_callV okmX12_isCell lmX12_394 ⟨nle rfl, nle rfl⟩ hx.o ⟨by decide, rfl⟩ (ex_isCell hx hm) npmX12_isCell rfl (nle rfl) ⟨nle rfl, nle rfl⟩ dX12_tell_12 ?_
      rintro _ mz ⟨rfl, hz⟩
      subst mz
      rw [hic]
      refine go_c1 ?_
      refine gz_eq (by omega) (tgt := 39) dX12_tell_15 (by decide) (fun h15 => by exfalso; omega) (fun h15 => ?_)
      refine go_iload_n (q := 3) (i := 3) rfl rfl dX12_tell_18 ?_
      refine go_iconst (v := nI 0) (by decide) dX12_tell_19 ?_
      refine go_bipush (v := nI 24) (by decide) dX12_tell_20 ?_
      refine go_callS okmX12_in lmX12_361 ⟨nle rfl, nle rfl⟩ (ex_in) npmX12_in rfl (nle rfl) ⟨nle rfl, nle rfl⟩ dX12_tell_22 ?_
      rintro _ mz ⟨rfl, hz⟩
      subst mz
      rw [hn]
      refine go_c1 ?_
      refine gz_eq (by omega) (tgt := 39) dX12_tell_25 (by decide) (fun h25 => ?_) (fun h25 => by exfalso; omega)
      refine go_iconst (v := -1) (by decide) dX12_tell_39 ?_
      refine go_iret rfl ⟨Nat.zero_le _, Nat.zero_le _⟩ dX12_tell_40 ?_
      exact Or.inr ⟨fun z => absurd (hn.symm.trans z.1.2) (by decide), rfl, rfl⟩
    · skip
      rcases in_c th (N := 99) (by decide) with hth | ⟨t9, ht9, rfl, hth⟩
      · skip
        refine go_aload_n (q := 0) (i := 0) rfl rfl dX12_tell_0 ?_
        refine go_getI lf12_289 rfl hx.o dX12_tell_1 ?_
        rw [h3]
        refine go_bipush (v := nI 20) (by decide) dX12_tell_4 ?_
        refine gn_eq (by omega) (by omega) (tgt := 39) dX12_tell_6 (by decide) (fun h6 => by exfalso; omega) (fun h6 => ?_)
        refine go_aload_n (q := 0) (i := 0) rfl rfl dX12_tell_9 ?_
        refine go_iload_n (q := 1) (i := 1) rfl rfl dX12_tell_10 ?_
        refine go_iload_n (q := 2) (i := 2) rfl rfl dX12_tell_11 ?_
        refine go_callV okmX12_isCell lmX12_394 ⟨nle rfl, nle rfl⟩ hx.o ⟨by decide, rfl⟩ (ex_isCell hx hm) npmX12_isCell rfl (nle rfl) ⟨nle rfl, nle rfl⟩ dX12_tell_12 ?_
        rintro _ mz ⟨rfl, hz⟩
        subst mz
        rw [hic]
        refine go_c1 ?_
        refine gz_eq (by omega) (tgt := 39) dX12_tell_15 (by decide) (fun h15 => by exfalso; omega) (fun h15 => ?_)
        refine go_iload_n (q := 3) (i := 3) rfl rfl dX12_tell_18 ?_
        refine go_iconst (v := nI 0) (by decide) dX12_tell_19 ?_
        refine go_bipush (v := nI 24) (by decide) dX12_tell_20 ?_
        refine go_callS okmX12_in lmX12_361 ⟨nle rfl, nle rfl⟩ (ex_in) npmX12_in rfl (nle rfl) ⟨nle rfl, nle rfl⟩ dX12_tell_22 ?_
        rintro _ mz ⟨rfl, hz⟩
        subst mz
        rw [hn]
        refine go_c1 ?_
        refine gz_eq (by omega) (tgt := 39) dX12_tell_25 (by decide) (fun h25 => by exfalso; omega) (fun h25 => ?_)
        refine go_iload (i := 4) rfl dX12_tell_28 ?_
        refine go_iconst (v := nI 0) (by decide) dX12_tell_30 ?_
        refine go_bipush (v := nI 99) (by decide) dX12_tell_31 ?_
        refine go_callS okmX12_in lmX12_361 ⟨nle rfl, nle rfl⟩ (ex_in) npmX12_in rfl (nle rfl) ⟨nle rfl, nle rfl⟩ dX12_tell_33 ?_
        rintro _ mz ⟨rfl, hz⟩
        subst mz
        rw [hth]
        refine go_c1 ?_
        refine gz_ne (by omega) (tgt := 41) dX12_tell_36 (by decide) (fun h36 => by exfalso; omega) (fun h36 => ?_)
        refine go_iconst (v := -1) (by decide) dX12_tell_39 ?_
        refine go_iret rfl ⟨Nat.zero_le _, Nat.zero_le _⟩ dX12_tell_40 ?_
        exact Or.inr ⟨fun z => absurd (hth.symm.trans z.2) (by decide), rfl, rfl⟩
      · skip
        refine go_aload_n (q := 0) (i := 0) rfl rfl dX12_tell_0 ?_
        refine go_getI lf12_289 rfl hx.o dX12_tell_1 ?_
        rw [h3]
        refine go_bipush (v := nI 20) (by decide) dX12_tell_4 ?_
        refine gn_eq (by omega) (by omega) (tgt := 39) dX12_tell_6 (by decide) (fun h6 => by exfalso; omega) (fun h6 => ?_)
        refine go_aload_n (q := 0) (i := 0) rfl rfl dX12_tell_9 ?_
        refine go_iload_n (q := 1) (i := 1) rfl rfl dX12_tell_10 ?_
        refine go_iload_n (q := 2) (i := 2) rfl rfl dX12_tell_11 ?_
        refine go_callV okmX12_isCell lmX12_394 ⟨nle rfl, nle rfl⟩ hx.o ⟨by decide, rfl⟩ (ex_isCell hx hm) npmX12_isCell rfl (nle rfl) ⟨nle rfl, nle rfl⟩ dX12_tell_12 ?_
        rintro _ mz ⟨rfl, hz⟩
        subst mz
        rw [hic]
        refine go_c1 ?_
        refine gz_eq (by omega) (tgt := 39) dX12_tell_15 (by decide) (fun h15 => by exfalso; omega) (fun h15 => ?_)
        refine go_iload_n (q := 3) (i := 3) rfl rfl dX12_tell_18 ?_
        refine go_iconst (v := nI 0) (by decide) dX12_tell_19 ?_
        refine go_bipush (v := nI 24) (by decide) dX12_tell_20 ?_
        refine go_callS okmX12_in lmX12_361 ⟨nle rfl, nle rfl⟩ (ex_in) npmX12_in rfl (nle rfl) ⟨nle rfl, nle rfl⟩ dX12_tell_22 ?_
        rintro _ mz ⟨rfl, hz⟩
        subst mz
        rw [hn]
        refine go_c1 ?_
        refine gz_eq (by omega) (tgt := 39) dX12_tell_25 (by decide) (fun h25 => by exfalso; omega) (fun h25 => ?_)
        refine go_iload (i := 4) rfl dX12_tell_28 ?_
        refine go_iconst (v := nI 0) (by decide) dX12_tell_30 ?_
        refine go_bipush (v := nI 99) (by decide) dX12_tell_31 ?_
        refine go_callS okmX12_in lmX12_361 ⟨nle rfl, nle rfl⟩ (ex_in) npmX12_in rfl (nle rfl) ⟨nle rfl, nle rfl⟩ dX12_tell_33 ?_
        rintro _ mz ⟨rfl, hz⟩
        subst mz
        rw [hth]
        refine go_c1 ?_
        refine gz_ne (by omega) (tgt := 41) dX12_tell_36 (by decide) (fun h36 => ?_) (fun h36 => by exfalso; omega)
        refine go_aload_n (q := 0) (i := 0) rfl rfl dX12_tell_41 ?_
        refine go_getR lf12_161 rfl hx.o hx.r69 dX12_tell_42 ?_
        refine go_aload_n (q := 0) (i := 0) rfl rfl dX12_tell_45 ?_
        refine go_getI lf12_289 rfl hx.o dX12_tell_46 ?_
        rw [h3]
        refine go_bipush (v := nI 8) (by decide) dX12_tell_49 ?_
        refine go_iload_n (q := 2) (i := 2) rfl rfl dX12_tell_51 ?_
        refine gn_mul dX12_tell_52 ?_
        refine go_iload_n (q := 1) (i := 1) rfl rfl dX12_tell_53 ?_
        refine gn_add dX12_tell_54 ?_
        refine go_iast (j := t) hx.i69 (by omega) (by first | decide | omega) rfl dX12_tell_55 ?_
        refine go_aload_n (q := 0) (i := 0) rfl rfl dX12_tell_56 ?_
        refine go_getR lf12_164 rfl hx.o hx.r70 dX12_tell_57 ?_
        refine go_aload_n (q := 0) (i := 0) rfl rfl dX12_tell_60 ?_
        refine go_getI lf12_289 rfl hx.o dX12_tell_61 ?_
        rw [gI_n (by decide), h3]
        refine go_iload_n (q := 3) (i := 3) rfl rfl dX12_tell_64 ?_
        refine go_iast (j := t) hx.i70 (by omega) (by first | decide | omega) rfl dX12_tell_65 ?_
        refine go_aload_n (q := 0) (i := 0) rfl rfl dX12_tell_66 ?_
        refine go_getR lf12_167 rfl hx.o hx.r71 dX12_tell_67 ?_
        refine go_aload_n (q := 0) (i := 0) rfl rfl dX12_tell_70 ?_
        refine go_getI lf12_289 rfl hx.o dX12_tell_71 ?_
        rw [gI_n (by decide), gI_n (by decide), h3]
        refine go_iload (i := 4) rfl dX12_tell_74 ?_
        refine go_iast (j := t) hx.i71 (by omega) (by first | decide | omega) rfl dX12_tell_76 ?_
        refine go_aload_n (q := 0) (i := 0) rfl rfl dX12_tell_77 ?_
        refine go_dup rfl dX12_tell_78 ?_
        refine go_getI lf12_289 rfl hx.o dX12_tell_79 ?_
        rw [gI_n (by decide), gI_n (by decide), gI_n (by decide), h3]
        refine go_iconst (v := nI 1) (by decide) dX12_tell_82 ?_
        refine gn_add dX12_tell_83 ?_
        refine go_putI lf12_289 rfl (Or.inl rfl) hx.o dX12_tell_84 ?_
        refine go_aload_n (q := 0) (i := 0) rfl rfl dX12_tell_87 ?_
        refine go_getI lf12_289 rfl hx.o dX12_tell_88 ?_
        rw [gI_s, upd_eq]
        refine go_iconst (v := nI 1) (by decide) dX12_tell_91 ?_
        refine gn_sub (by omega) dX12_tell_92 ?_
        refine go_iret rfl ⟨Nat.zero_le _, Nat.zero_le _⟩ dX12_tell_93 ?_
        refine Or.inl ⟨⟨⟨by rw [hca]; exact nI_pos (by omega), hn⟩, hth⟩, a, b, j, t9, ha, hb, hj, ht9, rfl, rfl, rfl, rfl, by rw [show t + 1 - 1 = t by omega], ?_, fun k hk => ?_, ?_, ?_, ?_, ?_⟩
        · exact Ch.i (Ch.i (Ch.i (Ch.i Ch.rf (by omega)) (by omega)) (by omega)) (by omega)
        · rw [gI_s, upd_ne hk, gI_n (by decide), gI_n (by decide), gI_n (by decide)]
        · rw [gI_s, upd_eq]
        · rw [gI_n (by decide), gI_n (by decide), gI_n (by decide), gI_s]
        · rw [gI_n (by decide), gI_n (by decide), gI_s, gI_n (by decide)]
        · rw [gI_n (by decide), gI_s, gI_n (by decide), gI_n (by decide)]
set_option maxRecDepth 100000 in
set_option maxHeartbeats 4000000 in
theorem ex_tell0 {m : Me} (hx : Wf12 m.1 (gR m)) {x y n th : Int32} (h3 : gI m 274 68 = nI 20) : Ev mX12_tell [.ref 274, .int x, .int y, .int n, .int th] m (fun o m' => o = some (.int (-1)) ∧ m' = m) := by
  refine ⟨plmX12_tell, nle rfl, ?_⟩
  refine go_aload_n (q := 0) (i := 0) rfl rfl dX12_tell_0 ?_
  refine go_getI lf12_289 rfl hx.o dX12_tell_1 ?_
  rw [h3]
  refine go_bipush (v := nI 20) (by decide) dX12_tell_4 ?_
  refine gn_eq (by omega) (by omega) (tgt := 39) dX12_tell_6 (by decide) (fun h6 => ?_) (fun h6 => by exfalso; omega)
  refine go_iconst (v := -1) (by decide) dX12_tell_39 ?_
  refine go_iret rfl ⟨Nat.zero_le _, Nat.zero_le _⟩ dX12_tell_40 ?_
  exact ⟨rfl, rfl⟩
theorem bk_c (v : Int32) {n : Nat} (hn : n ≤ 2000) : (v < 0 ∨ (¬ v < 0 ∧ nI n < v)) ∨ ∃ j, j ≤ n ∧ v = nI j := by
  by_cases h0 : v < 0
  · exact Or.inl (Or.inl h0)
  · obtain ⟨j, hj, rfl⟩ := nI_of h0
    by_cases h1 : j ≤ n
    · exact Or.inr ⟨j, h1, rfl⟩
    · exact Or.inl (Or.inr ⟨h0, by rw [nI_ltI (by omega) hj]; omega⟩)
set_option maxRecDepth 100000 in
set_option maxHeartbeats 4000000 in
theorem ev_back {m : Me} {pl dr : Nat} (hX : CX m.1 (gR m) pl dr) {n j : Nat} (hn : n ≤ 2000) (hj : j ≤ n) (hl : gI m 1 1 = nI n) : Ev mX11_back [.ref 0, .int (nI j)] m (fun o m' => o = some (.int (nI (n - j))) ∧ m' = sI m 1 (upd (gI m 1) 1 (nI (n - j)))) := by
  refine ⟨plmX11_back, nle rfl, ?_⟩
  refine go_iload_n (q := 1) (i := 1) rfl rfl dX11_back_0 ?_
  refine gz_lt (by omega) (tgt := 15) dX11_back_1 (by decide) (fun h1 => by exfalso; omega) (fun h1 => ?_)
  refine go_iload_n (q := 1) (i := 1) rfl rfl dX11_back_4 ?_
  refine go_aload_n (q := 0) (i := 0) rfl rfl dX11_back_5 ?_
  refine go_getR lf11_12 rfl hX.o hX.r0 dX11_back_6 ?_
  refine go_getI lf11_97 rfl hX.w0.o dX11_back_9 ?_
  rw [hl]
  refine gn_le (by omega) (by omega) (tgt := 17) dX11_back_12 (by decide) (fun h12 => ?_) (fun h12 => by exfalso; omega)
  refine go_aload_n (q := 0) (i := 0) rfl rfl dX11_back_17 ?_
  refine go_getR lf11_12 rfl hX.o hX.r0 dX11_back_18 ?_
  refine go_dup rfl dX11_back_21 ?_
  refine go_getI lf11_97 rfl hX.w0.o dX11_back_22 ?_
  rw [hl]
  refine go_iload_n (q := 1) (i := 1) rfl rfl dX11_back_25 ?_
  refine gn_sub (by omega) dX11_back_26 ?_
  refine go_putI lf11_97 rfl (Or.inl rfl) hX.w0.o dX11_back_27 ?_
  refine go_aload_n (q := 0) (i := 0) rfl rfl dX11_back_30 ?_
  refine go_getR lf11_12 rfl hX.o hX.r0 dX11_back_31 ?_
  refine go_getI lf11_97 rfl hX.w0.o dX11_back_34 ?_
  rw [gI_s, upd_eq]
  refine go_iret rfl ⟨Nat.zero_le _, Nat.zero_le _⟩ dX11_back_37 ?_
  exact ⟨rfl, rfl⟩
set_option maxRecDepth 100000 in
set_option maxHeartbeats 4000000 in
theorem ev_back0 {m : Me} {pl dr : Nat} (hX : CX m.1 (gR m) pl dr) {n : Nat} {v : Int32} (hn : n ≤ 2000) (hv : v < 0 ∨ (¬ v < 0 ∧ nI n < v)) (hl : gI m 1 1 = nI n) : Ev mX11_back [.ref 0, .int v] m (fun o m' => o = some (.int (-1)) ∧ m' = m) := by
  refine ⟨plmX11_back, nle rfl, ?_⟩
  refine go_iload_n (q := 1) (i := 1) rfl rfl dX11_back_0 ?_
  refine go_if_lt (tgt := 15) dX11_back_1 (by decide) (fun hb1 => ?_) (fun hb1 => ?_)
  · skip
    refine go_iconst (v := -1) (by decide) dX11_back_15 ?_
    refine go_iret rfl ⟨Nat.zero_le _, Nat.zero_le _⟩ dX11_back_16 ?_
    exact ⟨rfl, rfl⟩
  · skip
    refine go_iload_n (q := 1) (i := 1) rfl rfl dX11_back_4 ?_
    refine go_aload_n (q := 0) (i := 0) rfl rfl dX11_back_5 ?_
    refine go_getR lf11_12 rfl hX.o hX.r0 dX11_back_6 ?_
    refine go_getI lf11_97 rfl hX.w0.o dX11_back_9 ?_
    rw [hl]
    refine go_icmp_le (tgt := 17) dX11_back_12 (by decide) (fun h12 => by exfalso; exact hv.elim hb1 (fun z => absurd z.2 (Int32.not_lt.mpr h12))) (fun h12 => ?_)
    refine go_iconst (v := -1) (by decide) dX11_back_15 ?_
    refine go_iret rfl ⟨Nat.zero_le _, Nat.zero_le _⟩ dX11_back_16 ?_
    exact ⟨rfl, rfl⟩
set_option maxRecDepth 100000 in
set_option maxHeartbeats 4000000 in
theorem ex_back {m : Me} (hx : Wf12 m.1 (gR m)) {n j : Nat} (hn : n ≤ 2000) (hj : j ≤ n) (hl : gI m 274 2 = nI n) : Ev mX12_back [.ref 274, .int (nI j)] m (fun o m' => o = some (.int (nI (n - j))) ∧ m' = sI m 274 (upd (gI m 274) 2 (nI (n - j)))) := by
  refine ⟨plmX12_back, nle rfl, ?_⟩
  refine go_iload_n (q := 1) (i := 1) rfl rfl dX12_back_0 ?_
  refine gz_lt (by omega) (tgt := 12) dX12_back_1 (by decide) (fun h1 => by exfalso; omega) (fun h1 => ?_)
  refine go_iload_n (q := 1) (i := 1) rfl rfl dX12_back_4 ?_
  refine go_aload_n (q := 0) (i := 0) rfl rfl dX12_back_5 ?_
  refine go_getI lf12_193 rfl hx.o dX12_back_6 ?_
  rw [hl]
  refine gn_le (by omega) (by omega) (tgt := 14) dX12_back_9 (by decide) (fun h9 => ?_) (fun h9 => by exfalso; omega)
  refine go_aload_n (q := 0) (i := 0) rfl rfl dX12_back_14 ?_
  refine go_dup rfl dX12_back_15 ?_
  refine go_getI lf12_193 rfl hx.o dX12_back_16 ?_
  rw [hl]
  refine go_iload_n (q := 1) (i := 1) rfl rfl dX12_back_19 ?_
  refine gn_sub (by omega) dX12_back_20 ?_
  refine go_putI lf12_193 rfl (Or.inl rfl) hx.o dX12_back_21 ?_
  refine go_aload_n (q := 0) (i := 0) rfl rfl dX12_back_24 ?_
  refine go_getI lf12_193 rfl hx.o dX12_back_25 ?_
  rw [gI_s, upd_eq]
  refine go_iret rfl ⟨Nat.zero_le _, Nat.zero_le _⟩ dX12_back_28 ?_
  exact ⟨rfl, rfl⟩
set_option maxRecDepth 100000 in
set_option maxHeartbeats 4000000 in
theorem ex_back0 {m : Me} (hx : Wf12 m.1 (gR m)) {n : Nat} {v : Int32} (hn : n ≤ 2000) (hv : v < 0 ∨ (¬ v < 0 ∧ nI n < v)) (hl : gI m 274 2 = nI n) : Ev mX12_back [.ref 274, .int v] m (fun o m' => o = some (.int (-1)) ∧ m' = m) := by
  refine ⟨plmX12_back, nle rfl, ?_⟩
  refine go_iload_n (q := 1) (i := 1) rfl rfl dX12_back_0 ?_
  refine go_if_lt (tgt := 12) dX12_back_1 (by decide) (fun hb1 => ?_) (fun hb1 => ?_)
  · skip
    refine go_iconst (v := -1) (by decide) dX12_back_12 ?_
    refine go_iret rfl ⟨Nat.zero_le _, Nat.zero_le _⟩ dX12_back_13 ?_
    exact ⟨rfl, rfl⟩
  · skip
    refine go_iload_n (q := 1) (i := 1) rfl rfl dX12_back_4 ?_
    refine go_aload_n (q := 0) (i := 0) rfl rfl dX12_back_5 ?_
    refine go_getI lf12_193 rfl hx.o dX12_back_6 ?_
    rw [hl]
    refine go_icmp_le (tgt := 14) dX12_back_9 (by decide) (fun h9 => by exfalso; exact hv.elim hb1 (fun z => absurd z.2 (Int32.not_lt.mpr h9))) (fun h9 => ?_)
    refine go_iconst (v := -1) (by decide) dX12_back_12 ?_
    refine go_iret rfl ⟨Nat.zero_le _, Nat.zero_le _⟩ dX12_back_13 ?_
    exact ⟨rfl, rfl⟩
/-- a word's bytes, the highest first -/
def by4 (w : Int32) (s : Nat) : Int32 := (w >>> (nI s &&& 31)).toInt8.toInt32
def pw4 (T : Nat → Int32) (n : Nat) (w : Int32) : Nat → Int32 := upd (upd (upd (upd T n (by4 w 24).toInt8.toInt32) (n + 1) (by4 w 16).toInt8.toInt32) (n + 1 + 1) (by4 w 8).toInt8.toInt32) (n + 1 + 1 + 1) (by4 w 0).toInt8.toInt32
theorem by4_u {w : Int32} {s : Nat} (hs : s ≤ 24) : (w.toUInt32 >>> ((nI s).toUInt32 &&& Int32.toUInt32 31)).toInt32.toInt8.toInt32 = by4 w s := by
  unfold by4
  congr 1
  apply Int8.toBitVec_inj.mp
  rw [Int32.toBitVec_toInt8, Int32.toBitVec_toInt8]
  show BitVec.signExtend 8 (w.toUInt32 >>> ((nI s).toUInt32 &&& Int32.toUInt32 31)).toBitVec = BitVec.signExtend 8 (w >>> (nI s &&& 31)).toBitVec
  apply BitVec.eq_of_getLsbD_eq
  intro i hi
  rw [BitVec.getLsbD_signExtend, BitVec.getLsbD_signExtend, if_pos (show i < 32 by omega), if_pos (show i < 32 by omega)]
  congr 1
  rw [UInt32.toBitVec_shiftRight, Int32.toBitVec_shiftRight, BitVec.ushiftRight_eq']
  have e1 : ((nI s).toUInt32 &&& Int32.toUInt32 31).toBitVec % 32 = BitVec.ofNat 32 s := by
    have : ∀ s : Fin 25, ((nI s.val).toUInt32 &&& Int32.toUInt32 31).toBitVec % 32 = BitVec.ofNat 32 s.val := by decide +kernel
    exact this ⟨s, by omega⟩
  have e2 : (nI s &&& 31).toBitVec.smod 32 = BitVec.ofNat 32 s := by
    have : ∀ s : Fin 25, (nI s.val &&& 31).toBitVec.smod 32 = BitVec.ofNat 32 s.val := by decide +kernel
    exact this ⟨s, by omega⟩
  rw [e1, e2, BitVec.getLsbD_ushiftRight]
  show _ = (w.toBitVec.sshiftRight (BitVec.ofNat 32 s).toNat).getLsbD i
  rw [BitVec.toNat_ofNat, Nat.mod_eq_of_lt (show s < 2 ^ 32 by omega), BitVec.getLsbD_sshiftRight]
  rw [if_pos (show s + i < 32 by omega), decide_eq_false (show ¬ 32 ≤ i by omega)]
  rfl
theorem pw4_c {T T' : Nat → Int32} {n : Nat} {w : Int32} (h : ∀ k, k < n → T k = T' k) : ∀ k, k < n + 4 → pw4 T n w k = pw4 T' n w k := by
  unfold pw4
  have e : ∀ (T T' : Nat → Int32) (n : Nat) (x : Int32), (∀ k, k < n → T k = T' k) → ∀ k, k < n + 1 → upd T n x k = upd T' n x k := fun T T' n x h k hk => by
    by_cases q : k = n
    · rw [q, upd_eq, upd_eq]
    · rw [upd_ne q, upd_ne q]; exact h k (by omega)
  exact e _ _ _ _ (e _ _ _ _ (e _ _ _ _ (e _ _ _ _ h)))
set_option maxRecDepth 100000 in
set_option maxHeartbeats 4000000 in
theorem ev_putWord {m : Me} {n : Nat} {w : Int32} (hw : Wf9 m.1 (gR m) 1) (hn : n + 4 ≤ 2000) (h1 : gI m 1 1 = nI n) : Ev mX9_putWord [.ref 1, .int w] m (fun o m' => o = none ∧ Ch (fun y => y = 1 ∨ y = 2) m m' ∧ gI m' 1 1 = nI (n + 1 + 1 + 1 + 1) ∧ gI m' 2 = pw4 (gI m 2) n w) := by
  refine ⟨plmX9_putWord, nle rfl, ?_⟩
  refine go_bipush (v := nI 24) (by decide) dX9_putWord_0 ?_
  refine go_istore_n (q := 2) (i := 2) rfl dX9_putWord_2 (nle rfl) (nle rfl) ?_
  refine go_iload_n (q := 2) (i := 2) rfl rfl dX9_putWord_3 ?_
  refine gz_lt (by omega) (tgt := 53) dX9_putWord_4 (by decide) (fun h4 => by exfalso; omega) (fun h4 => ?_)
  refine go_aload_n (q := 0) (i := 0) rfl rfl dX9_putWord_7 ?_
  refine go_getI lf9_15 rfl hw.o dX9_putWord_8 ?_
  rw [h1]
  refine gz_lt (by omega) (tgt := 47) dX9_putWord_11 (by decide) (fun h11 => by exfalso; omega) (fun h11 => ?_)
  refine go_aload_n (q := 0) (i := 0) rfl rfl dX9_putWord_14 ?_
  refine go_getI lf9_15 rfl hw.o dX9_putWord_15 ?_
  rw [h1]
  refine go_sipush (v := nI 2000) (by decide) dX9_putWord_18 ?_
  refine gn_ge (by omega) (by omega) (tgt := 47) dX9_putWord_21 (by decide) (fun h21 => by exfalso; omega) (fun h21 => ?_)
  refine go_aload_n (q := 0) (i := 0) rfl rfl dX9_putWord_24 ?_
  refine go_getR lf9_9 rfl hw.o hw.r0 dX9_putWord_25 ?_
  refine go_aload_n (q := 0) (i := 0) rfl rfl dX9_putWord_28 ?_
  refine go_getI lf9_15 rfl hw.o dX9_putWord_29 ?_
  rw [h1]
  refine go_iload_n (q := 1) (i := 1) rfl rfl dX9_putWord_32 ?_
  refine go_iload_n (q := 2) (i := 2) rfl rfl dX9_putWord_33 ?_
  refine go_iushr dX9_putWord_34 ?_
  refine go_i2b dX9_putWord_35 ?_
  rw [by4_u (s := 24) (by decide)]
  refine go_bast (j := n) hw.i0 (by omega) (by first | decide | omega) rfl dX9_putWord_36 ?_
  refine go_aload_n (q := 0) (i := 0) rfl rfl dX9_putWord_37 ?_
  refine go_dup rfl dX9_putWord_38 ?_
  refine go_getI lf9_15 rfl hw.o dX9_putWord_39 ?_
  rw [gI_n (by decide), h1]
  refine go_iconst (v := nI 1) (by decide) dX9_putWord_42 ?_
  refine gn_add dX9_putWord_43 ?_
  refine go_putI lf9_15 rfl (Or.inl rfl) hw.o dX9_putWord_44 ?_
  generalize hm1 : sI (sI m (1 + 1) _) 1 _ = m1
  have cA1 : Ch (fun y => y = 1 ∨ y = 2) m m1 := by rw [← hm1]; exact Ch.i (Ch.i Ch.rf (Or.inr rfl)) (Or.inl rfl)
  have hl1 : gI m1 1 1 = nI (n + 1) := by rw [← hm1, gI_s, upd_eq]
  have hb1 : gI m1 2 = upd (gI m 2) (n) (by4 w 24).toInt8.toInt32 := by rw [← hm1, gI_n (by decide), gI_s]
  have hw : Wf9 m1.1 (gR m1) 1 := Ch.to (F := fun n R => Wf9 n R 1) cA1 hw
  refine go_iinc (i := 2) dX9_putWord_47 (nle rfl) rfl ?_
  rw [show nI 24 + Int32.ofInt (-8) = nI 16 by decide]
  refine go_goto (tgt := 3) dX9_putWord_50 (by decide) ?_
  refine go_iload_n (q := 2) (i := 2) rfl rfl dX9_putWord_3 ?_
  refine gz_lt (by omega) (tgt := 53) dX9_putWord_4 (by decide) (fun h4 => by exfalso; omega) (fun h4 => ?_)
  refine go_aload_n (q := 0) (i := 0) rfl rfl dX9_putWord_7 ?_
  refine go_getI lf9_15 rfl hw.o dX9_putWord_8 ?_
  rw [hl1]
  refine gz_lt (by omega) (tgt := 47) dX9_putWord_11 (by decide) (fun h11 => by exfalso; omega) (fun h11 => ?_)
  refine go_aload_n (q := 0) (i := 0) rfl rfl dX9_putWord_14 ?_
  refine go_getI lf9_15 rfl hw.o dX9_putWord_15 ?_
  rw [hl1]
  refine go_sipush (v := nI 2000) (by decide) dX9_putWord_18 ?_
  refine gn_ge (by omega) (by omega) (tgt := 47) dX9_putWord_21 (by decide) (fun h21 => by exfalso; omega) (fun h21 => ?_)
  refine go_aload_n (q := 0) (i := 0) rfl rfl dX9_putWord_24 ?_
  refine go_getR lf9_9 rfl hw.o hw.r0 dX9_putWord_25 ?_
  refine go_aload_n (q := 0) (i := 0) rfl rfl dX9_putWord_28 ?_
  refine go_getI lf9_15 rfl hw.o dX9_putWord_29 ?_
  rw [hl1]
  refine go_iload_n (q := 1) (i := 1) rfl rfl dX9_putWord_32 ?_
  refine go_iload_n (q := 2) (i := 2) rfl rfl dX9_putWord_33 ?_
  refine go_iushr dX9_putWord_34 ?_
  refine go_i2b dX9_putWord_35 ?_
  rw [by4_u (s := 16) (by decide)]
  refine go_bast (j := (n + 1)) hw.i0 (by omega) (by first | decide | omega) rfl dX9_putWord_36 ?_
  refine go_aload_n (q := 0) (i := 0) rfl rfl dX9_putWord_37 ?_
  refine go_dup rfl dX9_putWord_38 ?_
  refine go_getI lf9_15 rfl hw.o dX9_putWord_39 ?_
  rw [gI_n (by decide), hl1]
  refine go_iconst (v := nI 1) (by decide) dX9_putWord_42 ?_
  refine gn_add dX9_putWord_43 ?_
  refine go_putI lf9_15 rfl (Or.inl rfl) hw.o dX9_putWord_44 ?_
  generalize hm2 : sI (sI m1 (1 + 1) _) 1 _ = m2
  have cA2 : Ch (fun y => y = 1 ∨ y = 2) m1 m2 := by rw [← hm2]; exact Ch.i (Ch.i Ch.rf (Or.inr rfl)) (Or.inl rfl)
  have hl2 : gI m2 1 1 = nI (n + 1 + 1) := by rw [← hm2, gI_s, upd_eq]
  have hb2 : gI m2 2 = upd (gI m1 2) (n + 1) (by4 w 16).toInt8.toInt32 := by rw [← hm2, gI_n (by decide), gI_s]
  have hw : Wf9 m2.1 (gR m2) 1 := Ch.to (F := fun n R => Wf9 n R 1) cA2 hw
  refine go_iinc (i := 2) dX9_putWord_47 (nle rfl) rfl ?_
  rw [show nI 16 + Int32.ofInt (-8) = nI 8 by decide]
  refine go_goto (tgt := 3) dX9_putWord_50 (by decide) ?_
  refine go_iload_n (q := 2) (i := 2) rfl rfl dX9_putWord_3 ?_
  refine gz_lt (by omega) (tgt := 53) dX9_putWord_4 (by decide) (fun h4 => by exfalso; omega) (fun h4 => ?_)
  refine go_aload_n (q := 0) (i := 0) rfl rfl dX9_putWord_7 ?_
  refine go_getI lf9_15 rfl hw.o dX9_putWord_8 ?_
  rw [hl2]
  refine gz_lt (by omega) (tgt := 47) dX9_putWord_11 (by decide) (fun h11 => by exfalso; omega) (fun h11 => ?_)
  refine go_aload_n (q := 0) (i := 0) rfl rfl dX9_putWord_14 ?_
  refine go_getI lf9_15 rfl hw.o dX9_putWord_15 ?_
  rw [hl2]
  refine go_sipush (v := nI 2000) (by decide) dX9_putWord_18 ?_
  refine gn_ge (by omega) (by omega) (tgt := 47) dX9_putWord_21 (by decide) (fun h21 => by exfalso; omega) (fun h21 => ?_)
  refine go_aload_n (q := 0) (i := 0) rfl rfl dX9_putWord_24 ?_
  refine go_getR lf9_9 rfl hw.o hw.r0 dX9_putWord_25 ?_
  refine go_aload_n (q := 0) (i := 0) rfl rfl dX9_putWord_28 ?_
  refine go_getI lf9_15 rfl hw.o dX9_putWord_29 ?_
  rw [hl2]
  refine go_iload_n (q := 1) (i := 1) rfl rfl dX9_putWord_32 ?_
  refine go_iload_n (q := 2) (i := 2) rfl rfl dX9_putWord_33 ?_
  refine go_iushr dX9_putWord_34 ?_
  refine go_i2b dX9_putWord_35 ?_
  rw [by4_u (s := 8) (by decide)]
  refine go_bast (j := (n + 1 + 1)) hw.i0 (by omega) (by first | decide | omega) rfl dX9_putWord_36 ?_
  refine go_aload_n (q := 0) (i := 0) rfl rfl dX9_putWord_37 ?_
  refine go_dup rfl dX9_putWord_38 ?_
  refine go_getI lf9_15 rfl hw.o dX9_putWord_39 ?_
  rw [gI_n (by decide), hl2]
  refine go_iconst (v := nI 1) (by decide) dX9_putWord_42 ?_
  refine gn_add dX9_putWord_43 ?_
  refine go_putI lf9_15 rfl (Or.inl rfl) hw.o dX9_putWord_44 ?_
  generalize hm3 : sI (sI m2 (1 + 1) _) 1 _ = m3
  have cA3 : Ch (fun y => y = 1 ∨ y = 2) m2 m3 := by rw [← hm3]; exact Ch.i (Ch.i Ch.rf (Or.inr rfl)) (Or.inl rfl)
  have hl3 : gI m3 1 1 = nI (n + 1 + 1 + 1) := by rw [← hm3, gI_s, upd_eq]
  have hb3 : gI m3 2 = upd (gI m2 2) (n + 1 + 1) (by4 w 8).toInt8.toInt32 := by rw [← hm3, gI_n (by decide), gI_s]
  have hw : Wf9 m3.1 (gR m3) 1 := Ch.to (F := fun n R => Wf9 n R 1) cA3 hw
  refine go_iinc (i := 2) dX9_putWord_47 (nle rfl) rfl ?_
  rw [show nI 8 + Int32.ofInt (-8) = nI 0 by decide]
  refine go_goto (tgt := 3) dX9_putWord_50 (by decide) ?_
  refine go_iload_n (q := 2) (i := 2) rfl rfl dX9_putWord_3 ?_
  refine gz_lt (by omega) (tgt := 53) dX9_putWord_4 (by decide) (fun h4 => by exfalso; omega) (fun h4 => ?_)
  refine go_aload_n (q := 0) (i := 0) rfl rfl dX9_putWord_7 ?_
  refine go_getI lf9_15 rfl hw.o dX9_putWord_8 ?_
  rw [hl3]
  refine gz_lt (by omega) (tgt := 47) dX9_putWord_11 (by decide) (fun h11 => by exfalso; omega) (fun h11 => ?_)
  refine go_aload_n (q := 0) (i := 0) rfl rfl dX9_putWord_14 ?_
  refine go_getI lf9_15 rfl hw.o dX9_putWord_15 ?_
  rw [hl3]
  refine go_sipush (v := nI 2000) (by decide) dX9_putWord_18 ?_
  refine gn_ge (by omega) (by omega) (tgt := 47) dX9_putWord_21 (by decide) (fun h21 => by exfalso; omega) (fun h21 => ?_)
  refine go_aload_n (q := 0) (i := 0) rfl rfl dX9_putWord_24 ?_
  refine go_getR lf9_9 rfl hw.o hw.r0 dX9_putWord_25 ?_
  refine go_aload_n (q := 0) (i := 0) rfl rfl dX9_putWord_28 ?_
  refine go_getI lf9_15 rfl hw.o dX9_putWord_29 ?_
  rw [hl3]
  refine go_iload_n (q := 1) (i := 1) rfl rfl dX9_putWord_32 ?_
  refine go_iload_n (q := 2) (i := 2) rfl rfl dX9_putWord_33 ?_
  refine go_iushr dX9_putWord_34 ?_
  refine go_i2b dX9_putWord_35 ?_
  rw [by4_u (s := 0) (by decide)]
  refine go_bast (j := (n + 1 + 1 + 1)) hw.i0 (by omega) (by first | decide | omega) rfl dX9_putWord_36 ?_
  refine go_aload_n (q := 0) (i := 0) rfl rfl dX9_putWord_37 ?_
  refine go_dup rfl dX9_putWord_38 ?_
  refine go_getI lf9_15 rfl hw.o dX9_putWord_39 ?_
  rw [gI_n (by decide), hl3]
  refine go_iconst (v := nI 1) (by decide) dX9_putWord_42 ?_
  refine gn_add dX9_putWord_43 ?_
  refine go_putI lf9_15 rfl (Or.inl rfl) hw.o dX9_putWord_44 ?_
  generalize hm4 : sI (sI m3 (1 + 1) _) 1 _ = m4
  have cA4 : Ch (fun y => y = 1 ∨ y = 2) m3 m4 := by rw [← hm4]; exact Ch.i (Ch.i Ch.rf (Or.inr rfl)) (Or.inl rfl)
  have hl4 : gI m4 1 1 = nI (n + 1 + 1 + 1 + 1) := by rw [← hm4, gI_s, upd_eq]
  have hb4 : gI m4 2 = upd (gI m3 2) (n + 1 + 1 + 1) (by4 w 0).toInt8.toInt32 := by rw [← hm4, gI_n (by decide), gI_s]
  have hw : Wf9 m4.1 (gR m4) 1 := Ch.to (F := fun n R => Wf9 n R 1) cA4 hw
  refine go_iinc (i := 2) dX9_putWord_47 (nle rfl) rfl ?_
  rw [show nI 0 + Int32.ofInt (-8) = -8 by decide]
  refine go_goto (tgt := 3) dX9_putWord_50 (by decide) ?_
  refine go_iload_n (q := 2) (i := 2) rfl rfl dX9_putWord_3 ?_
  refine go_if_lt (tgt := 53) dX9_putWord_4 (by decide) (fun h4 => ?_) (fun h4 => by exfalso; exact h4 (by decide))
  refine go_vret rfl ⟨Nat.zero_le _, Nat.zero_le _⟩ dX9_putWord_53 ?_
  refine ⟨rfl, ((cA1.tr cA2).tr cA3).tr cA4, hl4, ?_⟩
  rw [hb4, hb3, hb2, hb1]
  rfl
