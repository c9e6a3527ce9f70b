/-- is it seen on: the i-th cell that way -/
def sgB (P : Pl) (r : Nat → Int32) (a b : Nat) (dx dy th : Int32) (i : Nat) : Prop := ¬ ceS P (nI a + nI (i + 1) * dx) (nI b + nI (i + 1) * dy) < 0 ∧ r (ceS P (nI a + nI (i + 1) * dx) (nI b + nI (i + 1) * dy)).toNatClampNeg < th
noncomputable def snN (P : Pl) (r : Nat → Int32) (a b : Nat) (dx dy th : Int32) : Nat → Nat → Nat
  | 0, i => i
  | k + 1, i => pit (sgB P r a b dx dy th i) (snN P r a b dx dy th k (i + 1)) i
theorem sn_t {P : Pl} {r : Nat → Int32} {a b i : Nat} {dx dy th : Int32} (hi : i < 7) (h : sgB P r a b dx dy th i) : snN P r a b dx dy th (7 - i) i = snN P r a b dx dy th (7 - (i + 1)) (i + 1) := by
  obtain ⟨k, hk⟩ : ∃ k, 7 - i = k + 1 := ⟨7 - i - 1, by omega⟩
  rw [hk, show 7 - (i + 1) = k by omega]
  exact pit_t h
theorem sn_f {P : Pl} {r : Nat → Int32} {a b i : Nat} {dx dy th : Int32} (hi : i < 7) (h : ¬ sgB P r a b dx dy th i) : snN P r a b dx dy th (7 - i) i = i := by
  obtain ⟨k, hk⟩ : ∃ k, 7 - i = k + 1 := ⟨7 - i - 1, by omega⟩
  rw [hk]
  exact pit_f h
theorem lin8 {i : Nat} {A a1 b1 : Nat} {dx : Int32} {Y : Int32} (h : nI A + nI (i + 1) * dx = nI a1) (hY : Y = nI b1) : nI 8 * Y + nI A + nI (i + 1) * dx = nI (8 * b1 + a1) := by
  rw [hY, Int32.add_assoc, h, pk_mul, nI_add]
noncomputable def sightS (P : Pl) (r : Nat → Int32) (x y th : Int32) : Int32 := if ceS P x y < 0 then -1 else if inS th (nI 0) (nI 99) = nI 0 then -1 else nI (snN P r x.toNatClampNeg y.toNatClampNeg (nI 1) (nI 0) th 7 0) + nI (snN P r x.toNatClampNeg y.toNatClampNeg (-1) (nI 0) th 7 0) + nI (snN P r x.toNatClampNeg y.toNatClampNeg (nI 0) (nI 1) th 7 0) + nI (snN P r x.toNatClampNeg y.toNatClampNeg (nI 0) (-1) th 7 0)
set_option maxRecDepth 100000 in
set_option maxHeartbeats 8000000 in
theorem ev_seen {m : Me} {pl dr : Nat} {P : Pl} {r : Nat → Int32} (hX : CX m.1 (gR m) pl dr) (hP : PlC m pl P) (ok : PlOk P) (hc : CR P (gw m 15) r) {a b w t : Nat} (ha : a < P.wd) (hb : b < P.rw) (ht : t ≤ 99) : Ev mX11_seenTowards [.ref 0, .int (nI a), .int (nI b), .int (nI w), .int (nI t)] m (fun o m' => o = some (.int (nI (snN P r a b (stA (nI w)) (stD (nI w)) (nI t) 7 0))) ∧ m' = m) := by
  refine ⟨plmX11_seenTowards, nle rfl, ?_⟩
  have hw8 := ok.1
  have hr5 := ok.2.1
  have hpd := hX.pd
  have key : ∀ i, i ≤ 7 → snN P r a b (stA (nI w)) (stD (nI w)) (nI t) 7 0 = snN P r a b (stA (nI w)) (stD (nI w)) (nI t) (7 - i) i → ∀ x7 : Option Value, Go mX11_seenTowards (fun o m' => o = some (.int (nI (snN P r a b (stA (nI w)) (stD (nI w)) (nI t) 7 0))) ∧ m' = m) 6 [some (.ref 0), some (.int (nI a)), some (.int (nI b)), some (.int (nI w)), some (.int (nI t)), some (.int (nI i)), some (.int (nI (i + 1))), x7] [] m 0 0 := by
    refine loop_up 7 ?_ ?_
    · intro hf x7
      refine go_iload (i := 6) rfl dX11_seenTowards_6 ?_
      refine go_bipush (v := nI 8) (by decide) dX11_seenTowards_8 ?_
      refine gn_ge (by omega) (by omega) (tgt := 79) dX11_seenTowards_10 (by decide) (fun h10 => ?_) (fun h10 => by exfalso; omega)
      refine go_iload (i := 5) rfl dX11_seenTowards_79 ?_
      refine go_iret rfl ⟨Nat.zero_le _, Nat.zero_le _⟩ dX11_seenTowards_81 ?_
      refine ⟨?_, rfl⟩
      rw [hf]
      rfl
    · intro i hi ih hf x7
      refine go_iload (i := 6) rfl dX11_seenTowards_6 ?_
      refine go_bipush (v := nI 8) (by decide) dX11_seenTowards_8 ?_
      refine gn_ge (by omega) (by omega) (tgt := 79) dX11_seenTowards_10 (by decide) (fun h10 => by exfalso; omega) (fun h10 => ?_)
      refine go_aload_n (q := 0) (i := 0) rfl rfl dX11_seenTowards_13 ?_
      refine go_getR lf11_86 rfl hX.o hX.rp dX11_seenTowards_14 ?_
      refine go_iload_n (q := 1) (i := 1) rfl rfl dX11_seenTowards_17 ?_
      refine go_iload (i := 6) rfl dX11_seenTowards_18 ?_
      refine go_iload_n (q := 3) (i := 3) rfl rfl dX11_seenTowards_20 ?_
      refine go_callS okmX11_stepAcross lmX11_328 ⟨nle rfl, nle rfl⟩ (ev_stA) npmX11_stepAcross rfl (nle rfl) ⟨nle rfl, nle rfl⟩ dX11_seenTowards_21 ?_
      rintro _ mz ⟨rfl, hz⟩
      subst mz
      refine go_c1 ?_
      refine go_imul dX11_seenTowards_24 ?_
      refine go_iadd dX11_seenTowards_25 ?_
      refine go_iload_n (q := 2) (i := 2) rfl rfl dX11_seenTowards_26 ?_
      refine go_iload (i := 6) rfl dX11_seenTowards_27 ?_
      refine go_iload_n (q := 3) (i := 3) rfl rfl dX11_seenTowards_29 ?_
      refine go_callS okmX11_stepDown lmX11_331 ⟨nle rfl, nle rfl⟩ (ev_stD) npmX11_stepDown rfl (nle rfl) ⟨nle rfl, nle rfl⟩ dX11_seenTowards_30 ?_
      rintro _ mz ⟨rfl, hz⟩
      subst mz
      refine go_c1 ?_
      refine go_imul dX11_seenTowards_33 ?_
      refine go_iadd dX11_seenTowards_34 ?_
      rcases ce_c ok (nI a + nI (i + 1) * (stA (nI w))) (nI b + nI (i + 1) * (stD (nI w))) with ⟨hca, hic⟩ | ⟨a1, b1, ha1, hb1, ex1, ey1, hca, hic⟩
      · skip
        refine go_callV okmX7_cellAt lmX11_126 ⟨nle rfl, nle rfl⟩ hX.wp.o ⟨by decide, rfl⟩ (ev_cellAt hX.wp) npmX7_cellAt rfl (nle rfl) ⟨nle rfl, nle rfl⟩ dX11_seenTowards_35 ?_
        rintro _ mz ⟨rfl, hz⟩
        subst mz
        rw [hP.wd, hP.rw, show caS (nI P.wd) (nI P.rw) _ _ = _ from hca]
        refine go_c1 ?_
        refine go_istore (i := 7) dX11_seenTowards_38 (nle rfl) (nle rfl) ?_
        refine go_iload (i := 7) rfl dX11_seenTowards_40 ?_
        refine go_if_lt (tgt := 67) dX11_seenTowards_42 (by decide) (fun h42 => ?_) (fun h42 => by exfalso; exact h42 (by decide))
        refine go_iload (i := 5) rfl dX11_seenTowards_67 ?_
        refine go_iret rfl ⟨Nat.zero_le _, Nat.zero_le _⟩ dX11_seenTowards_69 ?_
        refine ⟨?_, rfl⟩
        rw [hf, sn_f hi (fun z => z.1 (by rw [hca]; decide))]
      · skip
        refine go_callV okmX7_cellAt lmX11_126 ⟨nle rfl, nle rfl⟩ hX.wp.o ⟨by decide, rfl⟩ (ev_cellAt hX.wp) npmX7_cellAt rfl (nle rfl) ⟨nle rfl, nle rfl⟩ dX11_seenTowards_35 ?_
        rintro _ mz ⟨rfl, hz⟩
        subst mz
        rw [hP.wd, hP.rw, show caS (nI P.wd) (nI P.rw) _ _ = _ from hca]
        refine go_c1 ?_
        refine go_istore (i := 7) dX11_seenTowards_38 (nle rfl) (nle rfl) ?_
        refine go_iload (i := 7) rfl dX11_seenTowards_40 ?_
        refine gz_lt (by omega) (tgt := 67) dX11_seenTowards_42 (by decide) (fun h42 => by exfalso; omega) (fun h42 => ?_)
        refine go_iload (i := 7) rfl dX11_seenTowards_45 ?_
        refine go_bipush (v := nI 40) (by decide) dX11_seenTowards_47 ?_
        refine gn_ge (by omega) (by omega) (tgt := 67) dX11_seenTowards_49 (by decide) (fun h49 => by exfalso; omega) (fun h49 => ?_)
        refine go_aload_n (q := 0) (i := 0) rfl rfl dX11_seenTowards_52 ?_
        refine go_getR lf11_47 rfl hX.o hX.r5 dX11_seenTowards_53 ?_
        refine go_getR lf11_130 rfl hX.w5.o hX.w5.r1 dX11_seenTowards_56 ?_
        refine go_iload (i := 7) rfl dX11_seenTowards_59 ?_
        refine go_iald (j := (8 * b1 + a1)) hX.w5.i1 (by omega) (by first | decide | omega) rfl dX11_seenTowards_61 ?_
        rw [show gI m (15 + 1) (8 * b1 + a1) = _ from (gw_f (by omega)).trans (hc.f (by omega))]
        refine go_iload (i := 4) rfl dX11_seenTowards_62 ?_
        refine go_icmp_lt (tgt := 70) dX11_seenTowards_64 (by decide) (fun h64 => ?_) (fun h64 => ?_)
        · skip
          refine gn_inc (i := 5) (a := i) (q := 1) rfl dX11_seenTowards_70 (nle rfl) rfl ?_
          refine gn_inc (i := 6) (a := i + 1) (q := 1) rfl dX11_seenTowards_73 (nle rfl) rfl ?_
          refine go_goto (tgt := 6) dX11_seenTowards_76 (by decide) ?_
          exact ih (hf.trans (sn_t hi ⟨by rw [hca]; exact nI_pos (by omega), by rw [hca, nI_clamp (by omega)]; exact h64⟩)) _
        · skip
          refine go_iload (i := 5) rfl dX11_seenTowards_67 ?_
          refine go_iret rfl ⟨Nat.zero_le _, Nat.zero_le _⟩ dX11_seenTowards_69 ?_
          refine ⟨?_, rfl⟩
          rw [hf, sn_f hi (fun z => h64 (by have := z.2; rw [hca, nI_clamp (by omega)] at this; exact this))]
  refine go_iconst (v := nI 0) (by decide) dX11_seenTowards_0 ?_
  refine go_istore (i := 5) dX11_seenTowards_1 (nle rfl) (nle rfl) ?_
  refine go_iconst (v := nI 1) (by decide) dX11_seenTowards_3 ?_
  refine go_istore (i := 6) dX11_seenTowards_4 (nle rfl) (nle rfl) ?_
  exact key 0 (Nat.zero_le _) rfl _
set_option maxRecDepth 100000 in
set_option maxHeartbeats 8000000 in
theorem ex_seesOn {m : Me} {P : Pl} {lv : Nat} (hx : Wf12 m.1 (gR m)) (hm : MdC m P lv) (ok : PlOk P) {a b t : Nat} {dx dy : Int32} (ha : a < P.wd) (hb : b < P.rw) (ht : t ≤ 99) (h8 : icS P (nI a + nI 8 * dx) (nI b + nI 8 * dy) = nI 0) : Ev mX12_seesOn [.ref 274, .int (nI a), .int (nI b), .int dx, .int dy, .int (nI t)] m (fun o m' => o = some (.int (nI (snN P (gI m 316) a b dx dy (nI t) 7 0))) ∧ m' = m) := by
  refine ⟨plmX12_seesOn, nle rfl, ?_⟩
  have hw8 := ok.1
  have hr5 := ok.2.1
  have hlv := hm.lv
  have key : ∀ i, i ≤ 7 → snN P (gI m 316) a b dx dy (nI t) 7 0 = snN P (gI m 316) a b dx dy (nI t) (7 - i) i → Go mX12_seesOn (fun o m' => o = some (.int (nI (snN P (gI m 316) a b dx dy (nI t) 7 0))) ∧ m' = m) 3 [some (.ref 274), some (.int (nI a)), some (.int (nI b)), some (.int dx), some (.int dy), some (.int (nI t)), some (.int (nI i))] [] m 0 0 := by
    refine loop_up 7 ?_ ?_
    · intro hf
      refine go_aload_n (q := 0) (i := 0) rfl rfl dX12_seesOn_3 ?_
      refine go_iload_n (q := 1) (i := 1) rfl rfl dX12_seesOn_4 ?_
      refine go_iload (i := 6) rfl dX12_seesOn_5 ?_
      refine go_iconst (v := nI 1) (by decide) dX12_seesOn_7 ?_
      refine gn_add dX12_seesOn_8 ?_
      refine go_iload_n (q := 3) (i := 3) rfl rfl dX12_seesOn_9 ?_
      refine go_imul dX12_seesOn_10 ?_
      refine go_iadd dX12_seesOn_11 ?_
      refine go_iload_n (q := 2) (i := 2) rfl rfl dX12_seesOn_12 ?_
      refine go_iload (i := 6) rfl dX12_seesOn_13 ?_
      refine go_iconst (v := nI 1) (by decide) dX12_seesOn_15 ?_
      refine gn_add dX12_seesOn_16 ?_
      refine go_iload (i := 4) rfl dX12_seesOn_17 ?_
      refine go_imul dX12_seesOn_19 ?_
      refine go_iadd dX12_seesOn_20 ?_
      refine go_callV okmX12_isCell lmX12_394 ⟨nle rfl, nle rfl⟩ hx.o ⟨by decide, rfl⟩ (ex_isCell hx hm) npmX12_isCell rfl (nle rfl) ⟨nle rfl, nle rfl⟩ dX12_seesOn_21 ?_
      rintro _ mz ⟨rfl, hz⟩
      subst mz
      rw [show icS P (nI a + nI (7 + 1) * dx) (nI b + nI (7 + 1) * dy) = nI 0 from h8]
      refine go_c1 ?_
      refine gz_eq (by omega) (tgt := 64) dX12_seesOn_24 (by decide) (fun h24 => ?_) (fun h24 => by exfalso; omega)
      refine go_iload (i := 6) rfl dX12_seesOn_64 ?_
      refine go_iret rfl ⟨Nat.zero_le _, Nat.zero_le _⟩ dX12_seesOn_66 ?_
      refine ⟨?_, rfl⟩
      rw [hf]
      rfl
    · intro i hi ih hf
      refine go_aload_n (q := 0) (i := 0) rfl rfl dX12_seesOn_3 ?_
      refine go_iload_n (q := 1) (i := 1) rfl rfl dX12_seesOn_4 ?_
      refine go_iload (i := 6) rfl dX12_seesOn_5 ?_
      refine go_iconst (v := nI 1) (by decide) dX12_seesOn_7 ?_
      refine gn_add dX12_seesOn_8 ?_
      refine go_iload_n (q := 3) (i := 3) rfl rfl dX12_seesOn_9 ?_
      refine go_imul dX12_seesOn_10 ?_
      refine go_iadd dX12_seesOn_11 ?_
      refine go_iload_n (q := 2) (i := 2) rfl rfl dX12_seesOn_12 ?_
      refine go_iload (i := 6) rfl dX12_seesOn_13 ?_
      refine go_iconst (v := nI 1) (by decide) dX12_seesOn_15 ?_
      refine gn_add dX12_seesOn_16 ?_
      refine go_iload (i := 4) rfl dX12_seesOn_17 ?_
      refine go_imul dX12_seesOn_19 ?_
      refine go_iadd dX12_seesOn_20 ?_
      rcases ce_c ok (nI a + nI (i + 1) * dx) (nI b + nI (i + 1) * dy) with ⟨hca, hic⟩ | ⟨a1, b1, ha1, hb1, ex1, ey1, hca, hic⟩
      · skip
        refine go_callV okmX12_isCell lmX12_394 ⟨nle rfl, nle rfl⟩ hx.o ⟨by decide, rfl⟩ (ex_isCell hx hm) npmX12_isCell rfl (nle rfl) ⟨nle rfl, nle rfl⟩ dX12_seesOn_21 ?_
        rintro _ mz ⟨rfl, hz⟩
        subst mz
        rw [hic]
        refine go_c1 ?_
        refine gz_eq (by omega) (tgt := 64) dX12_seesOn_24 (by decide) (fun h24 => ?_) (fun h24 => by exfalso; omega)
        refine go_iload (i := 6) rfl dX12_seesOn_64 ?_
        refine go_iret rfl ⟨Nat.zero_le _, Nat.zero_le _⟩ dX12_seesOn_66 ?_
        refine ⟨?_, rfl⟩
        rw [hf, sn_f hi (fun z => z.1 (by rw [hca]; decide))]
      · skip
        refine go_callV okmX12_isCell lmX12_394 ⟨nle rfl, nle rfl⟩ hx.o ⟨by decide, rfl⟩ (ex_isCell hx hm) npmX12_isCell rfl (nle rfl) ⟨nle rfl, nle rfl⟩ dX12_seesOn_21 ?_
        rintro _ mz ⟨rfl, hz⟩
        subst mz
        rw [hic]
        refine go_c1 ?_
        refine gz_eq (by omega) (tgt := 64) dX12_seesOn_24 (by decide) (fun h24 => by exfalso; omega) (fun h24 => ?_)
        refine go_aload_n (q := 0) (i := 0) rfl rfl dX12_seesOn_27 ?_
        refine go_getR lf12_143 rfl hx.o hx.r59 dX12_seesOn_28 ?_
        refine go_bipush (v := nI 8) (by decide) dX12_seesOn_31 ?_
        refine go_iload_n (q := 2) (i := 2) rfl rfl dX12_seesOn_33 ?_
        refine go_iload (i := 6) rfl dX12_seesOn_34 ?_
        refine go_iconst (v := nI 1) (by decide) dX12_seesOn_36 ?_
        refine gn_add dX12_seesOn_37 ?_
        refine go_iload (i := 4) rfl dX12_seesOn_38 ?_
        refine go_imul dX12_seesOn_40 ?_
        refine go_iadd dX12_seesOn_41 ?_
        refine go_imul dX12_seesOn_42 ?_
        refine go_iload_n (q := 1) (i := 1) rfl rfl dX12_seesOn_43 ?_
        refine go_iadd dX12_seesOn_44 ?_
        refine go_iload (i := 6) rfl dX12_seesOn_45 ?_
        refine go_iconst (v := nI 1) (by decide) dX12_seesOn_47 ?_
        refine gn_add dX12_seesOn_48 ?_
        refine go_iload_n (q := 3) (i := 3) rfl rfl dX12_seesOn_49 ?_
        refine go_imul dX12_seesOn_50 ?_
        refine go_iadd dX12_seesOn_51 ?_
        rw [lin8 ex1 ey1]
        refine go_iald (j := (8 * b1 + a1)) hx.i59 (by omega) (by first | decide | omega) rfl dX12_seesOn_52 ?_
        refine go_iload (i := 5) rfl dX12_seesOn_53 ?_
        refine go_icmp_ge (tgt := 64) dX12_seesOn_55 (by decide) (fun h55 => ?_) (fun h55 => ?_)
        · skip
          refine go_iload (i := 6) rfl dX12_seesOn_64 ?_
          refine go_iret rfl ⟨Nat.zero_le _, Nat.zero_le _⟩ dX12_seesOn_66 ?_
          refine ⟨?_, rfl⟩
          rw [hf, sn_f hi (fun z => absurd (by have := z.2; rw [hca, nI_clamp (by omega)] at this; exact this) (Int32.not_lt.mpr h55))]
        · skip
          refine gn_inc (i := 6) (a := i) (q := 1) rfl dX12_seesOn_58 (nle rfl) rfl ?_
          refine go_goto (tgt := 3) dX12_seesOn_61 (by decide) ?_
          exact ih (hf.trans (sn_t hi ⟨by rw [hca]; exact nI_pos (by omega), by rw [hca, nI_clamp (by omega)]; exact Int32.not_le.mp h55⟩))
  refine go_iconst (v := nI 0) (by decide) dX12_seesOn_0 ?_
  refine go_istore (i := 6) dX12_seesOn_1 (nle rfl) (nle rfl) ?_
  exact key 0 (Nat.zero_le _) rfl
theorem ic8 {P : Pl} (ok : PlOk P) {X Y : Int32} (h : (X.toInt < 0 ∨ 8 ≤ X.toInt) ∨ (Y.toInt < 0 ∨ 8 ≤ Y.toInt)) : icS P X Y = nI 0 := by
  have hw := ok.1
  have hr := ok.2.1
  rcases ce_c ok X Y with ⟨-, e⟩ | ⟨a, b, ha, hb, rfl, rfl, -, -⟩
  · exact e
  · exfalso
    rw [nI_toInt (by omega), nI_toInt (by omega)] at h
    omega
theorem d8p {a : Nat} (ha : a < 8) : (nI a + nI 8 * nI 1).toInt < 0 ∨ 8 ≤ (nI a + nI 8 * nI 1).toInt := by
  have : ∀ a : Fin 8, (nI a.val + nI 8 * nI 1).toInt < 0 ∨ 8 ≤ (nI a.val + nI 8 * nI 1).toInt := by decide
  exact this ⟨a, ha⟩
theorem d8m {a : Nat} (ha : a < 8) : (nI a + nI 8 * (-1)).toInt < 0 ∨ 8 ≤ (nI a + nI 8 * (-1)).toInt := by
  have : ∀ a : Fin 8, (nI a.val + nI 8 * (-1)).toInt < 0 ∨ 8 ≤ (nI a.val + nI 8 * (-1)).toInt := by decide
  exact this ⟨a, ha⟩
theorem stv : stA (nI 1) = nI 1 ∧ stD (nI 1) = nI 0 ∧ stA (nI (1 + 1)) = nI 0 ∧ stD (nI (1 + 1)) = nI 1 ∧ stA (nI (1 + 1 + 1)) = -1 ∧ stD (nI (1 + 1 + 1)) = nI 0 ∧ stA (nI (1 + 1 + 1 + 1)) = nI 0 ∧ stD (nI (1 + 1 + 1 + 1)) = -1 := by
  unfold stA stD
  decide
noncomputable def sgN (P : Pl) (r : Nat → Int32) (a b : Nat) (th : Int32) : Nat → Int32
  | 0 => nI 0
  | i + 1 => sgN P r a b th i + nI (snN P r a b (stA (nI (i + 1))) (stD (nI (i + 1))) th 7 0)
theorem sg4 (P : Pl) (r : Nat → Int32) (a b : Nat) (th : Int32) : sgN P r a b th 4 = nI (snN P r a b (nI 1) (nI 0) th 7 0) + nI (snN P r a b (-1) (nI 0) th 7 0) + nI (snN P r a b (nI 0) (nI 1) th 7 0) + nI (snN P r a b (nI 0) (-1) th 7 0) := by
  have e : ∀ i, sgN P r a b th (i + 1) = sgN P r a b th i + nI (snN P r a b (stA (nI (i + 1))) (stD (nI (i + 1))) th 7 0) := fun _ => rfl
  rw [e 3, e 2, e 1, e 0, show sgN P r a b th 0 = nI 0 from rfl]
  rw [show stA (nI (0 + 1)) = nI 1 by decide, show stD (nI (0 + 1)) = nI 0 by decide, show stA (nI (1 + 1)) = nI 0 by decide, show stD (nI (1 + 1)) = nI 1 by decide, show stA (nI (2 + 1)) = -1 by decide, show stD (nI (2 + 1)) = nI 0 by decide, show stA (nI (3 + 1)) = nI 0 by decide, show stD (nI (3 + 1)) = -1 by decide]
  generalize nI (snN P r a b (nI 1) (nI 0) th 7 0) = q1
  generalize nI (snN P r a b (nI 0) (nI 1) th 7 0) = q2
  generalize nI (snN P r a b (-1) (nI 0) th 7 0) = q3
  generalize nI (snN P r a b (nI 0) (-1) th 7 0) = q4
  rw [nI_0, Int32.zero_add, Int32.add_assoc q1 q2 q3, Int32.add_comm q2 q3, ← Int32.add_assoc q1 q3 q2]
set_option maxRecDepth 100000 in
set_option maxHeartbeats 8000000 in
theorem ev_sight {m : Me} {pl dr M : Nat} {P : Pl} {r : Nat → Int32} (hX : CX m.1 (gR m) pl dr) (hP : PlC m pl P) (ok : PlOk P) (hM : M < 2 ^ 18) (hr : RoOk P M r) (hc : CR P (gw m 15) r) {x y th : Int32} : Ev mX11_sight [.ref 0, .int x, .int y, .int th] m (fun o m' => o = some (.int (sightS P r x y th)) ∧ Ch (LkS pl) m m') := by
  refine ⟨plmX11_sight, nle rfl, ?_⟩
  have hw8 := ok.1
  have hr5 := ok.2.1
  have hpd := hX.pd
  have hh4 := ok.2.2.1
  have hu6 := ok.2.2.2.1
  rcases ce_c ok x y with ⟨hca, hic⟩ | ⟨a, b, ha, hb, rfl, rfl, hca, hic⟩
  · skip
    refine go_aload_n (q := 0) (i := 0) rfl rfl dX11_sight_0 ?_
    refine go_getR lf11_86 rfl hX.o hX.rp dX11_sight_1 ?_
    refine go_iload_n (q := 1) (i := 1) rfl rfl dX11_sight_4 ?_
    refine go_iload_n (q := 2) (i := 2) rfl rfl dX11_sight_5 ?_
    refine go_callV okmX7_cellAt lmX11_126 ⟨nle rfl, nle rfl⟩ hX.wp.o ⟨by decide, rfl⟩ (ev_cellAt hX.wp) npmX7_cellAt rfl (nle rfl) ⟨nle rfl, nle rfl⟩ dX11_sight_6 ?_
    rintro _ mz ⟨rfl, hz⟩
    subst mz
    rw [hP.wd, hP.rw, show caS (nI P.wd) (nI P.rw) _ _ = _ from hca]
    refine go_c1 ?_
    refine go_if_lt (tgt := 19) dX11_sight_9 (by decide) (fun h9 => ?_) (fun h9 => by exfalso; exact h9 (by decide))
    refine go_iconst (v := -1) (by decide) dX11_sight_19 ?_
    refine go_iret rfl ⟨Nat.zero_le _, Nat.zero_le _⟩ dX11_sight_20 ?_
    refine ⟨?_, Ch.rf⟩
    simp only [sightS, hca, i10, reduceIte, cneg]
  · skip
    rcases in_c th (N := 99) (by decide) with hth | ⟨t, ht, rfl, hth⟩
    · skip
      refine go_aload_n (q := 0) (i := 0) rfl rfl dX11_sight_0 ?_
      refine go_getR lf11_86 rfl hX.o hX.rp dX11_sight_1 ?_
      refine go_iload_n (q := 1) (i := 1) rfl rfl dX11_sight_4 ?_
      refine go_iload_n (q := 2) (i := 2) rfl rfl dX11_sight_5 ?_
      refine go_callV okmX7_cellAt lmX11_126 ⟨nle rfl, nle rfl⟩ hX.wp.o ⟨by decide, rfl⟩ (ev_cellAt hX.wp) npmX7_cellAt rfl (nle rfl) ⟨nle rfl, nle rfl⟩ dX11_sight_6 ?_
      rintro _ mz ⟨rfl, hz⟩
      subst mz
      rw [hP.wd, hP.rw, show caS (nI P.wd) (nI P.rw) _ _ = _ from hca]
      refine go_c1 ?_
      refine gz_lt (by omega) (tgt := 19) dX11_sight_9 (by decide) (fun h9 => by exfalso; omega) (fun h9 => ?_)
      refine go_iload_n (q := 3) (i := 3) rfl rfl dX11_sight_12 ?_
      refine go_callS okmX11_isThick lmX11_235 ⟨nle rfl, nle rfl⟩ (ev_isThick) npmX11_isThick rfl (nle rfl) ⟨nle rfl, nle rfl⟩ dX11_sight_13 ?_
      rintro _ mz ⟨rfl, hz⟩
      subst mz
      rw [th_in, hth]
      refine go_c1 ?_
      refine gz_ne (by omega) (tgt := 21) dX11_sight_16 (by decide) (fun h16 => by exfalso; omega) (fun h16 => ?_)
      refine go_iconst (v := -1) (by decide) dX11_sight_19 ?_
      refine go_iret rfl ⟨Nat.zero_le _, Nat.zero_le _⟩ dX11_sight_20 ?_
      refine ⟨?_, Ch.rf⟩
      simp only [sightS, hca, hth, i10, reduceIte, cpos (show 8 * b + a < 2 ^ 31 by omega)]
    · skip
      have key : ∀ i, i ≤ 4 → Go mX11_sight (fun o m' => o = some (.int (sightS P r (nI a) (nI b) (nI t))) ∧ Ch (LkS pl) m m') 27 [some (.ref 0), some (.int (nI a)), some (.int (nI b)), some (.int (nI t)), some (.int (sgN P r a b (nI t) i)), some (.int (nI (i + 1)))] [] m 0 0 := by
        refine loop_up 4 ?_ ?_
        · skip
          refine go_iload (i := 5) rfl dX11_sight_27 ?_
          refine go_iconst (v := nI 5) (by decide) dX11_sight_29 ?_
          refine gn_ge (by omega) (by omega) (tgt := 53) dX11_sight_30 (by decide) (fun h30 => ?_) (fun h30 => by exfalso; omega)
          refine go_iload (i := 4) rfl dX11_sight_53 ?_
          refine go_iret rfl ⟨Nat.zero_le _, Nat.zero_le _⟩ dX11_sight_55 ?_
          refine ⟨?_, Ch.rf⟩
          simp only [sightS, hca, hth, i10, reduceIte, cpos (show 8 * b + a < 2 ^ 31 by omega), nI_clamp (show a < 2 ^ 31 by omega), nI_clamp (show b < 2 ^ 31 by omega)]
          rw [sg4]
        · intro i hi ih 
          refine go_iload (i := 5) rfl dX11_sight_27 ?_
          refine go_iconst (v := nI 5) (by decide) dX11_sight_29 ?_
          refine gn_ge (by omega) (by omega) (tgt := 53) dX11_sight_30 (by decide) (fun h30 => by exfalso; omega) (fun h30 => ?_)
          refine go_iload (i := 4) rfl dX11_sight_33 ?_
          refine go_aload_n (q := 0) (i := 0) rfl rfl dX11_sight_35 ?_
          refine go_iload_n (q := 1) (i := 1) rfl rfl dX11_sight_36 ?_
          refine go_iload_n (q := 2) (i := 2) rfl rfl dX11_sight_37 ?_
          refine go_iload (i := 5) rfl dX11_sight_38 ?_
          refine go_iload_n (q := 3) (i := 3) rfl rfl dX11_sight_40 ?_
          refine go_callV okmX11_seenTowards lmX11_264 ⟨nle rfl, nle rfl⟩ hX.o ⟨by decide, rfl⟩ (ev_seen hX hP ok hc ha hb ht) npmX11_seenTowards rfl (nle rfl) ⟨nle rfl, nle rfl⟩ dX11_sight_41 ?_
          rintro _ mz ⟨rfl, hz⟩
          subst mz
          refine go_c1 ?_
          refine go_iadd dX11_sight_44 ?_
          refine go_istore (i := 4) dX11_sight_45 (nle rfl) (nle rfl) ?_
          refine gn_inc (i := 5) (a := i + 1) (q := 1) rfl dX11_sight_47 (nle rfl) rfl ?_
          refine go_goto (tgt := 27) dX11_sight_50 (by decide) ?_
          exact ih
      refine go_aload_n (q := 0) (i := 0) rfl rfl dX11_sight_0 ?_
      refine go_getR lf11_86 rfl hX.o hX.rp dX11_sight_1 ?_
      refine go_iload_n (q := 1) (i := 1) rfl rfl dX11_sight_4 ?_
      refine go_iload_n (q := 2) (i := 2) rfl rfl dX11_sight_5 ?_
      refine go_callV okmX7_cellAt lmX11_126 ⟨nle rfl, nle rfl⟩ hX.wp.o ⟨by decide, rfl⟩ (ev_cellAt hX.wp) npmX7_cellAt rfl (nle rfl) ⟨nle rfl, nle rfl⟩ dX11_sight_6 ?_
      rintro _ mz ⟨rfl, hz⟩
      subst mz
      rw [hP.wd, hP.rw, show caS (nI P.wd) (nI P.rw) _ _ = _ from hca]
      refine go_c1 ?_
      refine gz_lt (by omega) (tgt := 19) dX11_sight_9 (by decide) (fun h9 => by exfalso; omega) (fun h9 => ?_)
      refine go_iload_n (q := 3) (i := 3) rfl rfl dX11_sight_12 ?_
      refine go_callS okmX11_isThick lmX11_235 ⟨nle rfl, nle rfl⟩ (ev_isThick) npmX11_isThick rfl (nle rfl) ⟨nle rfl, nle rfl⟩ dX11_sight_13 ?_
      rintro _ mz ⟨rfl, hz⟩
      subst mz
      rw [th_in, hth]
      refine go_c1 ?_
      refine gz_ne (by omega) (tgt := 21) dX11_sight_16 (by decide) (fun h16 => ?_) (fun h16 => by exfalso; omega)
      refine go_iconst (v := nI 0) (by decide) dX11_sight_21 ?_
      refine go_istore (i := 4) dX11_sight_22 (nle rfl) (nle rfl) ?_
      refine go_iconst (v := nI 1) (by decide) dX11_sight_24 ?_
      refine go_istore (i := 5) dX11_sight_25 (nle rfl) (nle rfl) ?_
      exact key 0 (Nat.zero_le _)
set_option maxRecDepth 100000 in
set_option maxHeartbeats 8000000 in
theorem ex_sight {m : Me} {P : Pl} {lv : Nat} (hx : Wf12 m.1 (gR m)) (hm : MdC m P lv) (ok : PlOk P) {x y th : Int32} : Ev mX12_sight [.ref 274, .int x, .int y, .int th] m (fun o m' => o = some (.int (sightS P (cp 105 (gI m 315) (gI m 316)) x y th)) ∧ Mo m m') := by
  refine ⟨plmX12_sight, nle rfl, ?_⟩
  have hw8 := ok.1
  have hr5 := ok.2.1
  have hlv := hm.lv
  have hh4 := ok.2.2.1
  have hu6 := ok.2.2.2.1
  rcases ce_c ok x y with ⟨hca, hic⟩ | ⟨a, b, ha, hb, rfl, rfl, hca, hic⟩
  · skip
    refine go_aload_n (q := 0) (i := 0) rfl rfl dX12_sight_0 ?_
    refine go_iload_n (q := 1) (i := 1) rfl rfl dX12_sight_1 ?_
    refine go_iload_n (q := 2) (i := 2) rfl rfl dX12_sight_2 ?_
    refine go_callV okmX12_isCell lmX12_394 ⟨nle rfl, nle rfl⟩ hx.o ⟨by decide, rfl⟩ (ex_isCell hx hm) npmX12_isCell rfl (nle rfl) ⟨nle rfl, nle rfl⟩ dX12_sight_3 ?_
    rintro _ mz ⟨rfl, hz⟩
    subst mz
    rw [hic]
    refine go_c1 ?_
    refine gz_eq (by omega) (tgt := 16) dX12_sight_6 (by decide) (fun h6 => ?_) (fun h6 => by exfalso; omega)
    refine go_iconst (v := -1) (by decide) dX12_sight_16 ?_
    refine go_iret rfl ⟨Nat.zero_le _, Nat.zero_le _⟩ dX12_sight_17 ?_
    refine ⟨?_, Mo.rf⟩
    simp only [sightS, hca, i10, reduceIte, cneg]
  · skip
    rcases in_c th (N := 99) (by decide) with hth | ⟨t, ht, rfl, hth⟩
    · skip
      refine go_aload_n (q := 0) (i := 0) rfl rfl dX12_sight_0 ?_
      refine go_iload_n (q := 1) (i := 1) rfl rfl dX12_sight_1 ?_
      refine go_iload_n (q := 2) (i := 2) rfl rfl dX12_sight_2 ?_
      refine go_callV okmX12_isCell lmX12_394 ⟨nle rfl, nle rfl⟩ hx.o ⟨by decide, rfl⟩ (ex_isCell hx hm) npmX12_isCell rfl (nle rfl) ⟨nle rfl, nle rfl⟩ dX12_sight_3 ?_
      rintro _ mz ⟨rfl, hz⟩
      subst mz
      rw [hic]
      refine go_c1 ?_
      refine gz_eq (by omega) (tgt := 16) dX12_sight_6 (by decide) (fun h6 => by exfalso; omega) (fun h6 => ?_)
      refine go_iload_n (q := 3) (i := 3) rfl rfl dX12_sight_9 ?_
      refine go_callS okmX12_isThick lmX12_447 ⟨nle rfl, nle rfl⟩ (ex_isThick) npmX12_isThick rfl (nle rfl) ⟨nle rfl, nle rfl⟩ dX12_sight_10 ?_
      rintro _ mz ⟨rfl, hz⟩
      subst mz
      rw [hth]
      refine go_c1 ?_
      refine gz_ne (by omega) (tgt := 18) dX12_sight_13 (by decide) (fun h13 => by exfalso; omega) (fun h13 => ?_)
      refine go_iconst (v := -1) (by decide) dX12_sight_16 ?_
      refine go_iret rfl ⟨Nat.zero_le _, Nat.zero_le _⟩ dX12_sight_17 ?_
      refine ⟨?_, Mo.rf⟩
      simp only [sightS, hca, hth, i10, reduceIte, cpos (show 8 * b + a < 2 ^ 31 by omega)]
    · skip
      refine go_aload_n (q := 0) (i := 0) rfl rfl dX12_sight_0 ?_
      refine go_iload_n (q := 1) (i := 1) rfl rfl dX12_sight_1 ?_
      refine go_iload_n (q := 2) (i := 2) rfl rfl dX12_sight_2 ?_
      refine go_callV okmX12_isCell lmX12_394 ⟨nle rfl, nle rfl⟩ hx.o ⟨by decide, rfl⟩ (ex_isCell hx hm) npmX12_isCell rfl (nle rfl) ⟨nle rfl, nle rfl⟩ dX12_sight_3 ?_
      rintro _ mz ⟨rfl, hz⟩
      subst mz
      rw [hic]
      refine go_c1 ?_
      refine gz_eq (by omega) (tgt := 16) dX12_sight_6 (by decide) (fun h6 => by exfalso; omega) (fun h6 => ?_)
      refine go_iload_n (q := 3) (i := 3) rfl rfl dX12_sight_9 ?_
      refine go_callS okmX12_isThick lmX12_447 ⟨nle rfl, nle rfl⟩ (ex_isThick) npmX12_isThick rfl (nle rfl) ⟨nle rfl, nle rfl⟩ dX12_sight_10 ?_
      rintro _ mz ⟨rfl, hz⟩
      subst mz
      rw [hth]
      refine go_c1 ?_
      refine gz_ne (by omega) (tgt := 18) dX12_sight_13 (by decide) (fun h13 => ?_) (fun h13 => by exfalso; omega)
      refine go_aload_n (q := 0) (i := 0) rfl rfl dX12_sight_18 ?_
      refine go_callV okmX12_copies lmX12_413 ⟨nle rfl, nle rfl⟩ hx.o ⟨by decide, rfl⟩ (ex_copies hx hm) npmX12_copies rfl (nle rfl) ⟨nle rfl, nle rfl⟩ dX12_sight_19 ?_
      rintro _ m1 ⟨rfl, c1, e1, s1, l1, -⟩
      have hx := c1.wf hx
      have hm := c1.md hm
      refine go_c0 ?_
      refine go_aload_n (q := 0) (i := 0) rfl rfl dX12_sight_22 ?_
      refine go_iload_n (q := 1) (i := 1) rfl rfl dX12_sight_23 ?_
      refine go_iload_n (q := 2) (i := 2) rfl rfl dX12_sight_24 ?_
      refine go_iconst (v := nI 1) (by decide) dX12_sight_25 ?_
      refine go_iconst (v := nI 0) (by decide) dX12_sight_26 ?_
      refine go_iload_n (q := 3) (i := 3) rfl rfl dX12_sight_27 ?_
      refine go_callV okmX12_seesOn lmX12_475 ⟨nle rfl, nle rfl⟩ hx.o ⟨by decide, rfl⟩ (ex_seesOn hx hm ok ha hb ht (ic8 ok (Or.inl (d8p (by omega))))) npmX12_seesOn rfl (nle rfl) ⟨nle rfl, nle rfl⟩ dX12_sight_28 ?_
      rintro _ mz ⟨rfl, hz⟩
      subst mz
      rw [e1]
      refine go_c1 ?_
      refine go_aload_n (q := 0) (i := 0) rfl rfl dX12_sight_31 ?_
      refine go_iload_n (q := 1) (i := 1) rfl rfl dX12_sight_32 ?_
      refine go_iload_n (q := 2) (i := 2) rfl rfl dX12_sight_33 ?_
      refine go_iconst (v := -1) (by decide) dX12_sight_34 ?_
      refine go_iconst (v := nI 0) (by decide) dX12_sight_35 ?_
      refine go_iload_n (q := 3) (i := 3) rfl rfl dX12_sight_36 ?_
      refine go_callV okmX12_seesOn lmX12_475 ⟨nle rfl, nle rfl⟩ hx.o ⟨by decide, rfl⟩ (ex_seesOn hx hm ok ha hb ht (ic8 ok (Or.inl (d8m (by omega))))) npmX12_seesOn rfl (nle rfl) ⟨nle rfl, nle rfl⟩ dX12_sight_37 ?_
      rintro _ mz ⟨rfl, hz⟩
      subst mz
      rw [e1]
      refine go_c1 ?_
      refine go_iadd dX12_sight_40 ?_
      refine go_aload_n (q := 0) (i := 0) rfl rfl dX12_sight_41 ?_
      refine go_iload_n (q := 1) (i := 1) rfl rfl dX12_sight_42 ?_
      refine go_iload_n (q := 2) (i := 2) rfl rfl dX12_sight_43 ?_
      refine go_iconst (v := nI 0) (by decide) dX12_sight_44 ?_
      refine go_iconst (v := nI 1) (by decide) dX12_sight_45 ?_
      refine go_iload_n (q := 3) (i := 3) rfl rfl dX12_sight_46 ?_
      refine go_callV okmX12_seesOn lmX12_475 ⟨nle rfl, nle rfl⟩ hx.o ⟨by decide, rfl⟩ (ex_seesOn hx hm ok ha hb ht (ic8 ok (Or.inr (d8p (by omega))))) npmX12_seesOn rfl (nle rfl) ⟨nle rfl, nle rfl⟩ dX12_sight_47 ?_
      rintro _ mz ⟨rfl, hz⟩
      subst mz
      rw [e1]
      refine go_c1 ?_
      refine go_iadd dX12_sight_50 ?_
      refine go_aload_n (q := 0) (i := 0) rfl rfl dX12_sight_51 ?_
      refine go_iload_n (q := 1) (i := 1) rfl rfl dX12_sight_52 ?_
      refine go_iload_n (q := 2) (i := 2) rfl rfl dX12_sight_53 ?_
      refine go_iconst (v := nI 0) (by decide) dX12_sight_54 ?_
      refine go_iconst (v := -1) (by decide) dX12_sight_55 ?_
      refine go_iload_n (q := 3) (i := 3) rfl rfl dX12_sight_56 ?_
      refine go_callV okmX12_seesOn lmX12_475 ⟨nle rfl, nle rfl⟩ hx.o ⟨by decide, rfl⟩ (ex_seesOn hx hm ok ha hb ht (ic8 ok (Or.inr (d8m (by omega))))) npmX12_seesOn rfl (nle rfl) ⟨nle rfl, nle rfl⟩ dX12_sight_57 ?_
      rintro _ mz ⟨rfl, hz⟩
      subst mz
      rw [e1]
      refine go_c1 ?_
      refine go_iadd dX12_sight_60 ?_
      refine go_iret rfl ⟨Nat.zero_le _, Nat.zero_le _⟩ dX12_sight_61 ?_
      refine ⟨?_, c1⟩
      simp only [sightS, hca, hth, i10, reduceIte, cpos (show 8 * b + a < 2 ^ 31 by omega), nI_clamp (show a < 2 ^ 31 by omega), nI_clamp (show b < 2 ^ 31 by omega)]
