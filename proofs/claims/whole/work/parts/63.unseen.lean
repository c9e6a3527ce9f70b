/-- land where a row of truths says yes -/
abbrev LT (P : Pl) (T : Nat → Int32) (c : Nat) : Prop := ld P c ∧ ¬ T c = 0
theorem nxt_no {p : Nat → Prop} {c : Nat} (h1 : ¬ (c % 8 ≠ 0 ∧ p (c - 1))) (h2 : ¬ (c % 8 ≠ 7 ∧ p (c + 1))) (h3 : ¬ (8 ≤ c ∧ p (c - 8))) (h4 : ¬ p (c + 8)) : ¬ nxt p c := fun z => Or.elim z h1 (fun z => z.elim h2 (fun z => z.elim h3 h4))
theorem nbr_no {p : Nat → Prop} {c : Nat} (h1 : ¬ p c) (h2 : ¬ nxt p c) : ¬ nbr p c := fun z => Or.elim z h1 h2
theorem ld_40 {P : Pl} (ok : PlOk P) {c : Nat} (h : ld P c) : c < 40 := by
  have := ok.2.1
  have := h.2
  omega
theorem ld_ab {P : Pl} (ok : PlOk P) {a b : Nat} (ha : a < P.wd) (hb : b < P.rw) : ld P (8 * b + a) := by
  have := ok.1
  exact ⟨by omega, by omega⟩
theorem ic_1 {P : Pl} (ok : PlOk P) {a b : Nat} (ha : a < P.wd) (hb : b < P.rw) : icS P (nI a) (nI b) = nI 1 := by
  have := ok.1
  have := ok.2.1
  unfold icS
  rw [if_neg (by rw [in_1 ha (by omega)]; decide), if_neg (by rw [in_1 hb (by omega)]; decide)]
theorem in_0 {i n : Nat} (h : ¬ i < n) (hn : n < 2 ^ 20) (hi : i < 2 ^ 20) : inS (nI i) (nI 0) (nI n - nI 1) = nI 0 := by
  rcases hd_c hn (nI i) with q | ⟨j, h1, h2, -⟩
  · exact q
  · have := (nI_eq (show i < 2 ^ 31 by omega) (show j < 2 ^ 31 by omega)).mp h2
    omega
theorem in_m {n : Nat} : inS (nI 0 - nI 1) (nI 0) (nI n - nI 1) = nI 0 := by
  unfold inS
  rw [if_pos (by decide)]
theorem ic_x {P : Pl} {X Y : Int32} (h : inS X (nI 0) (nI P.wd - nI 1) = nI 0) : icS P X Y = nI 0 := by unfold icS; rw [if_pos h]
theorem ic_y {P : Pl} {X Y : Int32} (h : inS Y (nI 0) (nI P.rw - nI 1) = nI 0) : icS P X Y = nI 0 := by
  unfold icS
  rw [if_pos h]
  exact ite_self _
set_option maxRecDepth 100000 in
set_option maxHeartbeats 8000000 in
theorem ex_isNext {m : Me} {P : Pl} {lv : Nat} (hx : Wf12 m.1 (gR m)) (hm : MdC m P lv) (ok : PlOk P) {a b : Nat} (ha : a < P.wd) (hb : b < P.rw) : Ev mX12_isNext [.ref 274, .int (nI a), .int (nI b)] m (fun o m' => o = some (.int (pit (nxt (LT P (gI m 319)) (8 * b + a)) (nI 1) (nI 0))) ∧ m' = m) := by
  refine ⟨plmX12_isNext, nle rfl, ?_⟩
  have hw8 := ok.1
  have hr5 := ok.2.1
  have g110 : nxt (LT P (gI m 319)) (8 * b + a) → Go mX12_isNext (fun o m' => o = some (.int (pit (nxt (LT P (gI m 319)) (8 * b + a)) (nI 1) (nI 0))) ∧ m' = m) 110 [some (.ref 274), some (.int (nI a)), some (.int (nI b))] [] m 0 0 := by
    intro hN
    refine go_iconst (v := nI 1) (by decide) dX12_isNext_110 ?_
    refine go_goto (tgt := 115) dX12_isNext_111 (by decide) ?_
    refine go_zret rfl (by decide) ⟨Nat.zero_le _, Nat.zero_le _⟩ dX12_isNext_115 ?_
    refine ⟨?_, rfl⟩
    rw [pit_t hN]
  have g82 : (¬ ((8 * b + a) % 8 ≠ 0 ∧ LT P (gI m 319) (8 * b + a - 1))) → (¬ ((8 * b + a) % 8 ≠ 7 ∧ LT P (gI m 319) (8 * b + a + 1))) → (¬ (8 ≤ 8 * b + a ∧ LT P (gI m 319) (8 * b + a - 8))) → Go mX12_isNext (fun o m' => o = some (.int (pit (nxt (LT P (gI m 319)) (8 * b + a)) (nI 1) (nI 0))) ∧ m' = m) 82 [some (.ref 274), some (.int (nI a)), some (.int (nI b))] [] m 0 0 := by
    intro n0 n1 n2
    by_cases hq : b + 1 < P.rw
    · skip
      refine go_aload_n (q := 0) (i := 0) rfl rfl dX12_isNext_82 ?_
      refine go_iload_n (q := 1) (i := 1) rfl rfl dX12_isNext_83 ?_
      refine go_iload_n (q := 2) (i := 2) rfl rfl dX12_isNext_84 ?_
      refine go_iconst (v := nI 1) (by decide) dX12_isNext_85 ?_
      refine gn_add dX12_isNext_86 ?_
      refine go_callV okmX12_isCell lmX12_394 ⟨nle rfl, nle rfl⟩ hx.o ⟨by decide, rfl⟩ (ex_isCell hx hm) npmX12_isCell rfl (nle rfl) ⟨nle rfl, nle rfl⟩ dX12_isNext_87 ?_
      rintro _ mz ⟨rfl, hz⟩
      subst mz
      rw [ic_1 ok ha hq]
      refine go_c1 ?_
      refine gz_eq (by omega) (tgt := 114) dX12_isNext_90 (by decide) (fun h90 => by exfalso; omega) (fun h90 => ?_)
      refine go_aload_n (q := 0) (i := 0) rfl rfl dX12_isNext_93 ?_
      refine go_getR lf12_152 rfl hx.o hx.r65 dX12_isNext_94 ?_
      refine go_bipush (v := nI 8) (by decide) dX12_isNext_97 ?_
      refine go_iload_n (q := 2) (i := 2) rfl rfl dX12_isNext_99 ?_
      refine gn_mul dX12_isNext_100 ?_
      refine go_iload_n (q := 1) (i := 1) rfl rfl dX12_isNext_101 ?_
      refine gn_add dX12_isNext_102 ?_
      refine go_bipush (v := nI 8) (by decide) dX12_isNext_103 ?_
      refine gn_add dX12_isNext_105 ?_
      refine go_zald (j := (((8 * b) + a) + 8)) hx.i65 (by omega) (by first | decide | omega) rfl dX12_isNext_106 ?_
      refine go_if_eq (tgt := 114) dX12_isNext_107 (by decide) (fun h107 => ?_) (fun h107 => ?_)
      · skip
        refine go_iconst (v := nI 0) (by decide) dX12_isNext_114 ?_
        refine go_zret rfl (by decide) ⟨Nat.zero_le _, Nat.zero_le _⟩ dX12_isNext_115 ?_
        refine ⟨?_, rfl⟩
        have hv := h107
        rw [pit_f (nxt_no n0 n1 n2 (fun z => z.2 hv))]
      · skip
        have hv := h107
        exact g110 (Or.inr (Or.inr (Or.inr ⟨by have := ld_ab ok ha hq; rw [show 8 * b + a + 8 = 8 * (b + 1) + a by omega]; exact this, hv⟩)))
    · skip
      refine go_aload_n (q := 0) (i := 0) rfl rfl dX12_isNext_82 ?_
      refine go_iload_n (q := 1) (i := 1) rfl rfl dX12_isNext_83 ?_
      refine go_iload_n (q := 2) (i := 2) rfl rfl dX12_isNext_84 ?_
      refine go_iconst (v := nI 1) (by decide) dX12_isNext_85 ?_
      refine gn_add dX12_isNext_86 ?_
      refine go_callV okmX12_isCell lmX12_394 ⟨nle rfl, nle rfl⟩ hx.o ⟨by decide, rfl⟩ (ex_isCell hx hm) npmX12_isCell rfl (nle rfl) ⟨nle rfl, nle rfl⟩ dX12_isNext_87 ?_
      rintro _ mz ⟨rfl, hz⟩
      subst mz
      rw [ic_y (in_0 hq (by omega) (by omega))]
      refine go_c1 ?_
      refine gz_eq (by omega) (tgt := 114) dX12_isNext_90 (by decide) (fun h90 => ?_) (fun h90 => by exfalso; omega)
      refine go_iconst (v := nI 0) (by decide) dX12_isNext_114 ?_
      refine go_zret rfl (by decide) ⟨Nat.zero_le _, Nat.zero_le _⟩ dX12_isNext_115 ?_
      refine ⟨?_, rfl⟩
      rw [pit_f (nxt_no n0 n1 n2 (fun z => hq (by have := z.1.2; omega)))]
  have g54 : (¬ ((8 * b + a) % 8 ≠ 0 ∧ LT P (gI m 319) (8 * b + a - 1))) → (¬ ((8 * b + a) % 8 ≠ 7 ∧ LT P (gI m 319) (8 * b + a + 1))) → Go mX12_isNext (fun o m' => o = some (.int (pit (nxt (LT P (gI m 319)) (8 * b + a)) (nI 1) (nI 0))) ∧ m' = m) 54 [some (.ref 274), some (.int (nI a)), some (.int (nI b))] [] m 0 0 := by
    intro n0 n1
    by_cases hq : 1 ≤ b
    · skip
      refine go_aload_n (q := 0) (i := 0) rfl rfl dX12_isNext_54 ?_
      refine go_iload_n (q := 1) (i := 1) rfl rfl dX12_isNext_55 ?_
      refine go_iload_n (q := 2) (i := 2) rfl rfl dX12_isNext_56 ?_
      refine go_iconst (v := nI 1) (by decide) dX12_isNext_57 ?_
      refine gn_sub (by omega) dX12_isNext_58 ?_
      refine go_callV okmX12_isCell lmX12_394 ⟨nle rfl, nle rfl⟩ hx.o ⟨by decide, rfl⟩ (ex_isCell hx hm) npmX12_isCell rfl (nle rfl) ⟨nle rfl, nle rfl⟩ dX12_isNext_59 ?_
      rintro _ mz ⟨rfl, hz⟩
      subst mz
      rw [ic_1 ok ha (show b - 1 < P.rw by omega)]
      refine go_c1 ?_
      refine gz_eq (by omega) (tgt := 82) dX12_isNext_62 (by decide) (fun h62 => by exfalso; omega) (fun h62 => ?_)
      refine go_aload_n (q := 0) (i := 0) rfl rfl dX12_isNext_65 ?_
      refine go_getR lf12_152 rfl hx.o hx.r65 dX12_isNext_66 ?_
      refine go_bipush (v := nI 8) (by decide) dX12_isNext_69 ?_
      refine go_iload_n (q := 2) (i := 2) rfl rfl dX12_isNext_71 ?_
      refine gn_mul dX12_isNext_72 ?_
      refine go_iload_n (q := 1) (i := 1) rfl rfl dX12_isNext_73 ?_
      refine gn_add dX12_isNext_74 ?_
      refine go_bipush (v := nI 8) (by decide) dX12_isNext_75 ?_
      refine gn_sub (by omega) dX12_isNext_77 ?_
      refine go_zald (j := (((8 * b) + a) - 8)) hx.i65 (by omega) (by first | decide | omega) rfl dX12_isNext_78 ?_
      refine go_if_ne (tgt := 110) dX12_isNext_79 (by decide) (fun h79 => ?_) (fun h79 => ?_)
      · skip
        have hv := h79
        exact g110 (Or.inr (Or.inr (Or.inl ⟨by omega, by have := ld_ab ok ha (show b - 1 < P.rw by omega); rw [show 8 * b + a - 8 = 8 * (b - 1) + a by omega]; exact this, hv⟩)))
      · skip
        have hv := h79
        exact g82 n0 n1 (fun z => z.2.2 hv)
    · skip
      refine go_aload_n (q := 0) (i := 0) rfl rfl dX12_isNext_54 ?_
      refine go_iload_n (q := 1) (i := 1) rfl rfl dX12_isNext_55 ?_
      refine go_iload_n (q := 2) (i := 2) rfl rfl dX12_isNext_56 ?_
      refine go_iconst (v := nI 1) (by decide) dX12_isNext_57 ?_
      refine go_isub dX12_isNext_58 ?_
      refine go_callV okmX12_isCell lmX12_394 ⟨nle rfl, nle rfl⟩ hx.o ⟨by decide, rfl⟩ (ex_isCell hx hm) npmX12_isCell rfl (nle rfl) ⟨nle rfl, nle rfl⟩ dX12_isNext_59 ?_
      rintro _ mz ⟨rfl, hz⟩
      subst mz
      rw [show icS P (nI a) (nI b - nI 1) = nI 0 from ic_y (by rw [show b = 0 by omega]; exact in_m)]
      refine go_c1 ?_
      refine gz_eq (by omega) (tgt := 82) dX12_isNext_62 (by decide) (fun h62 => ?_) (fun h62 => by exfalso; omega)
      exact g82 n0 n1 (fun z => hq (by omega))
  have g27 : (¬ ((8 * b + a) % 8 ≠ 0 ∧ LT P (gI m 319) (8 * b + a - 1))) → Go mX12_isNext (fun o m' => o = some (.int (pit (nxt (LT P (gI m 319)) (8 * b + a)) (nI 1) (nI 0))) ∧ m' = m) 27 [some (.ref 274), some (.int (nI a)), some (.int (nI b))] [] m 0 0 := by
    intro n0
    by_cases hq : a + 1 < P.wd
    · skip
      refine go_aload_n (q := 0) (i := 0) rfl rfl dX12_isNext_27 ?_
      refine go_iload_n (q := 1) (i := 1) rfl rfl dX12_isNext_28 ?_
      refine go_iconst (v := nI 1) (by decide) dX12_isNext_29 ?_
      refine gn_add dX12_isNext_30 ?_
      refine go_iload_n (q := 2) (i := 2) rfl rfl dX12_isNext_31 ?_
      refine go_callV okmX12_isCell lmX12_394 ⟨nle rfl, nle rfl⟩ hx.o ⟨by decide, rfl⟩ (ex_isCell hx hm) npmX12_isCell rfl (nle rfl) ⟨nle rfl, nle rfl⟩ dX12_isNext_32 ?_
      rintro _ mz ⟨rfl, hz⟩
      subst mz
      rw [ic_1 ok hq hb]
      refine go_c1 ?_
      refine gz_eq (by omega) (tgt := 54) dX12_isNext_35 (by decide) (fun h35 => by exfalso; omega) (fun h35 => ?_)
      refine go_aload_n (q := 0) (i := 0) rfl rfl dX12_isNext_38 ?_
      refine go_getR lf12_152 rfl hx.o hx.r65 dX12_isNext_39 ?_
      refine go_bipush (v := nI 8) (by decide) dX12_isNext_42 ?_
      refine go_iload_n (q := 2) (i := 2) rfl rfl dX12_isNext_44 ?_
      refine gn_mul dX12_isNext_45 ?_
      refine go_iload_n (q := 1) (i := 1) rfl rfl dX12_isNext_46 ?_
      refine gn_add dX12_isNext_47 ?_
      refine go_iconst (v := nI 1) (by decide) dX12_isNext_48 ?_
      refine gn_add dX12_isNext_49 ?_
      refine go_zald (j := (((8 * b) + a) + 1)) hx.i65 (by omega) (by first | decide | omega) rfl dX12_isNext_50 ?_
      refine go_if_ne (tgt := 110) dX12_isNext_51 (by decide) (fun h51 => ?_) (fun h51 => ?_)
      · skip
        have hv := h51
        exact g110 (Or.inr (Or.inl ⟨by omega, by have := ld_ab ok hq hb; rw [show 8 * b + a + 1 = 8 * b + (a + 1) by omega]; exact this, hv⟩))
      · skip
        have hv := h51
        exact g54 n0 (fun z => z.2.2 hv)
    · skip
      refine go_aload_n (q := 0) (i := 0) rfl rfl dX12_isNext_27 ?_
      refine go_iload_n (q := 1) (i := 1) rfl rfl dX12_isNext_28 ?_
      refine go_iconst (v := nI 1) (by decide) dX12_isNext_29 ?_
      refine gn_add dX12_isNext_30 ?_
      refine go_iload_n (q := 2) (i := 2) rfl rfl dX12_isNext_31 ?_
      refine go_callV okmX12_isCell lmX12_394 ⟨nle rfl, nle rfl⟩ hx.o ⟨by decide, rfl⟩ (ex_isCell hx hm) npmX12_isCell rfl (nle rfl) ⟨nle rfl, nle rfl⟩ dX12_isNext_32 ?_
      rintro _ mz ⟨rfl, hz⟩
      subst mz
      rw [ic_x (in_0 hq (by omega) (by omega))]
      refine go_c1 ?_
      refine gz_eq (by omega) (tgt := 54) dX12_isNext_35 (by decide) (fun h35 => ?_) (fun h35 => by exfalso; omega)
      exact g54 n0 (fun z => hq (by have := z.1; have := z.2.1.1; omega))
  have g0 : Go mX12_isNext (fun o m' => o = some (.int (pit (nxt (LT P (gI m 319)) (8 * b + a)) (nI 1) (nI 0))) ∧ m' = m) 0 [some (.ref 274), some (.int (nI a)), some (.int (nI b))] [] m 0 0 := by
    by_cases hq : 1 ≤ a
    · skip
      refine go_aload_n (q := 0) (i := 0) rfl rfl dX12_isNext_0 ?_
      refine go_iload_n (q := 1) (i := 1) rfl rfl dX12_isNext_1 ?_
      refine go_iconst (v := nI 1) (by decide) dX12_isNext_2 ?_
      refine gn_sub (by omega) dX12_isNext_3 ?_
      refine go_iload_n (q := 2) (i := 2) rfl rfl dX12_isNext_4 ?_
      refine go_callV okmX12_isCell lmX12_394 ⟨nle rfl, nle rfl⟩ hx.o ⟨by decide, rfl⟩ (ex_isCell hx hm) npmX12_isCell rfl (nle rfl) ⟨nle rfl, nle rfl⟩ dX12_isNext_5 ?_
      rintro _ mz ⟨rfl, hz⟩
      subst mz
      rw [ic_1 ok (show a - 1 < P.wd by omega) hb]
      refine go_c1 ?_
      refine gz_eq (by omega) (tgt := 27) dX12_isNext_8 (by decide) (fun h8 => by exfalso; omega) (fun h8 => ?_)
      refine go_aload_n (q := 0) (i := 0) rfl rfl dX12_isNext_11 ?_
      refine go_getR lf12_152 rfl hx.o hx.r65 dX12_isNext_12 ?_
      refine go_bipush (v := nI 8) (by decide) dX12_isNext_15 ?_
      refine go_iload_n (q := 2) (i := 2) rfl rfl dX12_isNext_17 ?_
      refine gn_mul dX12_isNext_18 ?_
      refine go_iload_n (q := 1) (i := 1) rfl rfl dX12_isNext_19 ?_
      refine gn_add dX12_isNext_20 ?_
      refine go_iconst (v := nI 1) (by decide) dX12_isNext_21 ?_
      refine gn_sub (by omega) dX12_isNext_22 ?_
      refine go_zald (j := (((8 * b) + a) - 1)) hx.i65 (by omega) (by first | decide | omega) rfl dX12_isNext_23 ?_
      refine go_if_ne (tgt := 110) dX12_isNext_24 (by decide) (fun h24 => ?_) (fun h24 => ?_)
      · skip
        have hv := h24
        exact g110 (Or.inl ⟨by omega, by have := ld_ab ok (show a - 1 < P.wd by omega) hb; rw [show 8 * b + a - 1 = 8 * b + (a - 1) by omega]; exact this, hv⟩)
      · skip
        have hv := h24
        exact g27  (fun z => z.2.2 hv)
    · skip
      refine go_aload_n (q := 0) (i := 0) rfl rfl dX12_isNext_0 ?_
      refine go_iload_n (q := 1) (i := 1) rfl rfl dX12_isNext_1 ?_
      refine go_iconst (v := nI 1) (by decide) dX12_isNext_2 ?_
      refine go_isub dX12_isNext_3 ?_
      refine go_iload_n (q := 2) (i := 2) rfl rfl dX12_isNext_4 ?_
      refine go_callV okmX12_isCell lmX12_394 ⟨nle rfl, nle rfl⟩ hx.o ⟨by decide, rfl⟩ (ex_isCell hx hm) npmX12_isCell rfl (nle rfl) ⟨nle rfl, nle rfl⟩ dX12_isNext_5 ?_
      rintro _ mz ⟨rfl, hz⟩
      subst mz
      rw [show icS P (nI a - nI 1) (nI b) = nI 0 from ic_x (by rw [show a = 0 by omega]; exact in_m)]
      refine go_c1 ?_
      refine gz_eq (by omega) (tgt := 27) dX12_isNext_8 (by decide) (fun h8 => ?_) (fun h8 => by exfalso; omega)
      exact g27  (fun z => z.1 (by omega))
  exact g0
set_option maxRecDepth 100000 in
set_option maxHeartbeats 4000000 in
theorem ex_isNear {m : Me} {P : Pl} {lv : Nat} (hx : Wf12 m.1 (gR m)) (hm : MdC m P lv) (ok : PlOk P) {a b : Nat} (ha : a < P.wd) (hb : b < P.rw) : Ev mX12_isNear [.ref 274, .int (nI a), .int (nI b)] m (fun o m' => o = some (.int (pit (nbr (LT P (gI m 319)) (8 * b + a)) (nI 1) (nI 0))) ∧ m' = m) := by
  have hw8 := ok.1
  have hr5 := ok.2.1
  refine ⟨plmX12_isNear, nle rfl, ?_⟩
  refine go_aload_n (q := 0) (i := 0) rfl rfl dX12_isNear_0 ?_
  refine go_getR lf12_152 rfl hx.o hx.r65 dX12_isNear_1 ?_
  refine go_bipush (v := nI 8) (by decide) dX12_isNear_4 ?_
  refine go_iload_n (q := 2) (i := 2) rfl rfl dX12_isNear_6 ?_
  refine gn_mul dX12_isNear_7 ?_
  refine go_iload_n (q := 1) (i := 1) rfl rfl dX12_isNear_8 ?_
  refine gn_add dX12_isNear_9 ?_
  refine go_zald (j := ((8 * b) + a)) hx.i65 (by omega) (by first | decide | omega) rfl dX12_isNear_10 ?_
  refine go_if_ne (tgt := 23) dX12_isNear_11 (by decide) (fun h11 => ?_) (fun h11 => ?_)
  · skip
    refine go_iconst (v := nI 1) (by decide) dX12_isNear_23 ?_
    refine go_goto (tgt := 28) dX12_isNear_24 (by decide) ?_
    refine go_zret rfl (by decide) ⟨Nat.zero_le _, Nat.zero_le _⟩ dX12_isNear_28 ?_
    refine ⟨?_, rfl⟩
    rw [pit_t (show nbr _ _ from Or.inl ⟨ld_ab ok ha hb, h11⟩)]
  · skip
    refine go_aload_n (q := 0) (i := 0) rfl rfl dX12_isNear_14 ?_
    refine go_iload_n (q := 1) (i := 1) rfl rfl dX12_isNear_15 ?_
    refine go_iload_n (q := 2) (i := 2) rfl rfl dX12_isNear_16 ?_
    refine go_callV okmX12_isNext lmX12_453 ⟨nle rfl, nle rfl⟩ hx.o ⟨by decide, rfl⟩ (ex_isNext hx hm ok ha hb) npmX12_isNext rfl (nle rfl) ⟨nle rfl, nle rfl⟩ dX12_isNear_17 ?_
    rintro _ mz ⟨rfl, hz⟩
    subst mz
    refine go_c1 ?_
    refine go_if_eq (tgt := 27) dX12_isNear_20 (by decide) (fun h20 => ?_) (fun h20 => ?_)
    · skip
      refine go_iconst (v := nI 0) (by decide) dX12_isNear_27 ?_
      refine go_zret rfl (by decide) ⟨Nat.zero_le _, Nat.zero_le _⟩ dX12_isNear_28 ?_
      refine ⟨?_, rfl⟩
      rw [pit_f (nbr_no (fun z => z.2 h11) (fun z => by rw [pit_t z] at h20; exact absurd h20 (by decide)))]
    · skip
      refine go_iconst (v := nI 1) (by decide) dX12_isNear_23 ?_
      refine go_goto (tgt := 28) dX12_isNear_24 (by decide) ?_
      refine go_zret rfl (by decide) ⟨Nat.zero_le _, Nat.zero_le _⟩ dX12_isNear_28 ?_
      refine ⟨?_, rfl⟩
      rw [pit_t (show nbr _ _ from Or.inr (Classical.byContradiction (fun z => h20 (by rw [pit_f z]; exact nI_0))))]
set_option maxRecDepth 100000 in
set_option maxHeartbeats 4000000 in
theorem ev_wn {m : Me} {x : Int64} : Ev mX11_withNeighbours [.long x] m (fun o m' => o = some (.long (wnS x)) ∧ m' = m) := by
  refine ⟨plmX11_withNeighbours, nle rfl, ?_⟩
  refine go_lload_n (q := 0) (i := 0) rfl rfl dX11_withNeighbours_0 ?_
  refine go_ldc2 (wg5 37 rfl rfl) dX11_withNeighbours_1 ?_
  refine go_land dX11_withNeighbours_4 ?_
  refine go_iconst (v := nI 1) (by decide) dX11_withNeighbours_5 ?_
  refine go_lshl dX11_withNeighbours_6 ?_
  refine go_lload_n (q := 0) (i := 0) rfl rfl dX11_withNeighbours_7 ?_
  refine go_ldc2 (wg5 38 rfl rfl) dX11_withNeighbours_8 ?_
  refine go_land dX11_withNeighbours_11 ?_
  refine go_iconst (v := nI 1) (by decide) dX11_withNeighbours_12 ?_
  refine go_lushr dX11_withNeighbours_13 ?_
  refine go_lor dX11_withNeighbours_14 ?_
  refine go_lstore_n (q := 2) (i := 2) rfl dX11_withNeighbours_15 (nle rfl) (nle rfl) ?_
  refine go_lload_n (q := 0) (i := 0) rfl rfl dX11_withNeighbours_16 ?_
  refine go_lload_n (q := 2) (i := 2) rfl rfl dX11_withNeighbours_17 ?_
  refine go_lor dX11_withNeighbours_18 ?_
  refine go_lload_n (q := 0) (i := 0) rfl rfl dX11_withNeighbours_19 ?_
  refine go_bipush (v := nI 8) (by decide) dX11_withNeighbours_20 ?_
  refine go_lshl dX11_withNeighbours_22 ?_
  refine go_lor dX11_withNeighbours_23 ?_
  refine go_lload_n (q := 0) (i := 0) rfl rfl dX11_withNeighbours_24 ?_
  refine go_bipush (v := nI 8) (by decide) dX11_withNeighbours_25 ?_
  refine go_lushr dX11_withNeighbours_27 ?_
  refine go_lor dX11_withNeighbours_28 ?_
  refine go_lret rfl ⟨Nat.zero_le _, Nat.zero_le _⟩ dX11_withNeighbours_29 ?_
  exact ⟨rfl, rfl⟩
/-- cells where one can be behind so many hours, unseen all the way -/
noncomputable def unR (P : Pl) (r : Nat → Int32) (th : Int32) (f : Nat) : Nat → Nat → Prop
  | 0 => fun c => c = f ∧ th ≤ r f
  | h + 1 => fun c => (c < 40 ∧ ld P c ∧ th ≤ hrN P (-1) P.se (h + 1) r c) ∧ nbr (unR P r th f h) c
noncomputable def unF (P : Pl) (r : Nat → Int32) (th : Int32) (f t : Nat) : Nat → Option Int32 := fun i => pit (unR P r th f i t) (some (nI i)) none
noncomputable def unS (P : Pl) (r : Nat → Int32) (x y x2 y2 th : Int32) : Int32 := if ceS P x y < 0 then -1 else if ceS P x2 y2 < 0 then -1 else if inS th (nI 0) (nI 99) = nI 0 then -1 else fsN (unF P r th (ceS P x y).toNatClampNeg (ceS P x2 y2).toNatClampNeg) 41 0
theorem un_ld {P : Pl} {r : Nat → Int32} {th : Int32} {f : Nat} (hf : f < 40) (hl : ld P f) : ∀ i c, unR P r th f i c → c < 40 ∧ ld P c
  | 0, c, h => by rw [h.1]; exact ⟨hf, hl⟩
  | i + 1, c, h => ⟨h.1.1, h.1.2.1⟩
theorem un_none {P : Pl} {r : Nat → Int32} {th : Int32} {f i : Nat} (h : ∀ c, ¬ unR P r th f i c) : ∀ k c, ¬ unR P r th f (i + k) c
  | 0, c => h c
  | k + 1, c => fun q => by
    have n := un_none h k
    rcases q.2 with z | ⟨-, z⟩ | ⟨-, z⟩ | ⟨-, z⟩ | z
    · exact n _ z
    · exact n _ z
    · exact n _ z
    · exact n _ z
    · exact n _ z
theorem fs_none {f : Nat → Option Int32} : ∀ k i, (∀ j, i ≤ j → f j = none) → fsN f k i = -2
  | 0, i, _ => rfl
  | k + 1, i, h => by
    unfold fsN
    rw [h i (Nat.le_refl _)]
    exact fs_none k (i + 1) (fun j hj => h j (by omega))
theorem at_bs {P : Pl} {M : Nat} {m : Me} {g : Nat} {r : Nat → Int32} {t : Int32} (ok : PlOk P) (hr : RoOk P M r) (h : CR P (gw m g) r) : BS (atS (gI m (g + 1)) (gI m (g + 2)) t 40) (fun c => c < 40 ∧ ld P c ∧ t ≤ r c) :=
  (BS.at40 40 (Nat.le_refl _)).c (fun c => by
    constructor
    · rintro ⟨a, b, d⟩
      rw [gw_f a, h.f a] at d
      rw [gw_w a] at b
      exact ⟨a, Classical.byContradiction (fun z => b ((h.wn ok hr a).mpr z)), Int32.not_lt.mp d⟩
    · rintro ⟨a, b, d⟩
      refine ⟨a, fun z => ?_, ?_⟩
      · rw [gw_w a] at z
        exact (h.wn ok hr a).mp z b
      · rw [gw_f a, h.f a]; exact Int32.not_lt.mpr d)
set_option maxRecDepth 100000 in
set_option maxHeartbeats 8000000 in
theorem ev_unseen {m : Me} {pl dr M : Nat} {P : Pl} {r : Nat → Int32} (hX : CX m.1 (gR m) pl dr) (hP : PlC m pl P) (ok : PlOk P) (hM : M < 2 ^ 18) (hr : RoOk P M r) (hc : CR P (gw m 15) r) {x y x2 y2 th : Int32} : Ev mX11_unseen [.ref 0, .int x, .int y, .int x2, .int y2, .int th] m (fun o m' => o = some (.int (unS P r x y x2 y2 th)) ∧ Ch (LkS pl) m m') := by
  refine ⟨plmX11_unseen, nle rfl, ?_⟩
  have hw8 := ok.1
  have hr5 := ok.2.1
  have hpd := hX.pd
  have hh4 := ok.2.2.1
  have hu6 := ok.2.2.2.1
  rcases ce_c ok x y with ⟨hca, hic⟩ | ⟨a, b, ha, hb, rfl, rfl, hca, hic⟩
  · skip
    refine go_aload_n (q := 0) (i := 0) rfl rfl dX11_unseen_0 ?_
    refine go_getR lf11_86 rfl hX.o hX.rp dX11_unseen_1 ?_
    refine go_iload_n (q := 1) (i := 1) rfl rfl dX11_unseen_4 ?_
    refine go_iload_n (q := 2) (i := 2) rfl rfl dX11_unseen_5 ?_
    refine go_callV okmX7_cellAt lmX11_126 ⟨nle rfl, nle rfl⟩ hX.wp.o ⟨by decide, rfl⟩ (ev_cellAt hX.wp) npmX7_cellAt rfl (nle rfl) ⟨nle rfl, nle rfl⟩ dX11_unseen_6 ?_
    rintro _ mz ⟨rfl, hz⟩
    subst mz
    rw [hP.wd, hP.rw, show caS (nI P.wd) (nI P.rw) _ _ = _ from hca]
    refine go_c1 ?_
    refine go_istore (i := 6) dX11_unseen_9 (nle rfl) (nle rfl) ?_
    refine go_aload_n (q := 0) (i := 0) rfl rfl dX11_unseen_11 ?_
    refine go_getR lf11_86 rfl hX.o hX.rp dX11_unseen_12 ?_
    refine go_iload_n (q := 3) (i := 3) rfl rfl dX11_unseen_15 ?_
    refine go_iload (i := 4) rfl dX11_unseen_16 ?_
    refine go_callV okmX7_cellAt lmX11_126 ⟨nle rfl, nle rfl⟩ hX.wp.o ⟨by decide, rfl⟩ (ev_cellAt hX.wp) npmX7_cellAt rfl (nle rfl) ⟨nle rfl, nle rfl⟩ dX11_unseen_18 ?_
    rintro _ mz ⟨rfl, hz⟩
    subst mz
    refine go_c1 ?_
    refine go_istore (i := 7) dX11_unseen_21 (nle rfl) (nle rfl) ?_
    refine go_iload (i := 6) rfl dX11_unseen_23 ?_
    refine go_if_lt (tgt := 41) dX11_unseen_25 (by decide) (fun h25 => ?_) (fun h25 => by exfalso; exact h25 (by decide))
    refine go_iconst (v := -1) (by decide) dX11_unseen_41 ?_
    refine go_iret rfl ⟨Nat.zero_le _, Nat.zero_le _⟩ dX11_unseen_42 ?_
    refine ⟨?_, Ch.rf⟩
    simp only [unS, hca, i10, reduceIte, cneg]
  · skip
    rcases ce_c ok x2 y2 with ⟨hca2, hic2⟩ | ⟨a2, b2, ha2, hb2, rfl, rfl, hca2, hic2⟩
    · skip
      refine go_aload_n (q := 0) (i := 0) rfl rfl dX11_unseen_0 ?_
      refine go_getR lf11_86 rfl hX.o hX.rp dX11_unseen_1 ?_
      refine go_iload_n (q := 1) (i := 1) rfl rfl dX11_unseen_4 ?_
      refine go_iload_n (q := 2) (i := 2) rfl rfl dX11_unseen_5 ?_
      refine go_callV okmX7_cellAt lmX11_126 ⟨nle rfl, nle rfl⟩ hX.wp.o ⟨by decide, rfl⟩ (ev_cellAt hX.wp) npmX7_cellAt rfl (nle rfl) ⟨nle rfl, nle rfl⟩ dX11_unseen_6 ?_
      rintro _ mz ⟨rfl, hz⟩
      subst mz
      rw [hP.wd, hP.rw, show caS (nI P.wd) (nI P.rw) _ _ = _ from hca]
      refine go_c1 ?_
      refine go_istore (i := 6) dX11_unseen_9 (nle rfl) (nle rfl) ?_
      refine go_aload_n (q := 0) (i := 0) rfl rfl dX11_unseen_11 ?_
      refine go_getR lf11_86 rfl hX.o hX.rp dX11_unseen_12 ?_
      refine go_iload_n (q := 3) (i := 3) rfl rfl dX11_unseen_15 ?_
      refine go_iload (i := 4) rfl dX11_unseen_16 ?_
      refine go_callV okmX7_cellAt lmX11_126 ⟨nle rfl, nle rfl⟩ hX.wp.o ⟨by decide, rfl⟩ (ev_cellAt hX.wp) npmX7_cellAt rfl (nle rfl) ⟨nle rfl, nle rfl⟩ dX11_unseen_18 ?_
      rintro _ mz ⟨rfl, hz⟩
      subst mz
      rw [hP.wd, hP.rw, show caS (nI P.wd) (nI P.rw) _ _ = _ from hca2]
      refine go_c1 ?_
      refine go_istore (i := 7) dX11_unseen_21 (nle rfl) (nle rfl) ?_
      refine go_iload (i := 6) rfl dX11_unseen_23 ?_
      refine gz_lt (by omega) (tgt := 41) dX11_unseen_25 (by decide) (fun h25 => by exfalso; omega) (fun h25 => ?_)
      refine go_iload (i := 7) rfl dX11_unseen_28 ?_
      refine go_if_lt (tgt := 41) dX11_unseen_30 (by decide) (fun h30 => ?_) (fun h30 => by exfalso; exact h30 (by decide))
      refine go_iconst (v := -1) (by decide) dX11_unseen_41 ?_
      refine go_iret rfl ⟨Nat.zero_le _, Nat.zero_le _⟩ dX11_unseen_42 ?_
      refine ⟨?_, Ch.rf⟩
      simp only [unS, hca, hca2, i10, reduceIte, cneg, cpos (show 8 * b + a < 2 ^ 31 by omega)]
    · skip
      rcases in_c th (N := 99) (by decide) with hth | ⟨t, ht, rfl, hth⟩
      · skip
        refine go_aload_n (q := 0) (i := 0) rfl rfl dX11_unseen_0 ?_
        refine go_getR lf11_86 rfl hX.o hX.rp dX11_unseen_1 ?_
        refine go_iload_n (q := 1) (i := 1) rfl rfl dX11_unseen_4 ?_
        refine go_iload_n (q := 2) (i := 2) rfl rfl dX11_unseen_5 ?_
        refine go_callV okmX7_cellAt lmX11_126 ⟨nle rfl, nle rfl⟩ hX.wp.o ⟨by decide, rfl⟩ (ev_cellAt hX.wp) npmX7_cellAt rfl (nle rfl) ⟨nle rfl, nle rfl⟩ dX11_unseen_6 ?_
        rintro _ mz ⟨rfl, hz⟩
        subst mz
        rw [hP.wd, hP.rw, show caS (nI P.wd) (nI P.rw) _ _ = _ from hca]
        refine go_c1 ?_
        refine go_istore (i := 6) dX11_unseen_9 (nle rfl) (nle rfl) ?_
        refine go_aload_n (q := 0) (i := 0) rfl rfl dX11_unseen_11 ?_
        refine go_getR lf11_86 rfl hX.o hX.rp dX11_unseen_12 ?_
        refine go_iload_n (q := 3) (i := 3) rfl rfl dX11_unseen_15 ?_
        refine go_iload (i := 4) rfl dX11_unseen_16 ?_
        refine go_callV okmX7_cellAt lmX11_126 ⟨nle rfl, nle rfl⟩ hX.wp.o ⟨by decide, rfl⟩ (ev_cellAt hX.wp) npmX7_cellAt rfl (nle rfl) ⟨nle rfl, nle rfl⟩ dX11_unseen_18 ?_
        rintro _ mz ⟨rfl, hz⟩
        subst mz
        rw [hP.wd, hP.rw, show caS (nI P.wd) (nI P.rw) _ _ = _ from hca2]
        refine go_c1 ?_
        refine go_istore (i := 7) dX11_unseen_21 (nle rfl) (nle rfl) ?_
        refine go_iload (i := 6) rfl dX11_unseen_23 ?_
        refine gz_lt (by omega) (tgt := 41) dX11_unseen_25 (by decide) (fun h25 => by exfalso; omega) (fun h25 => ?_)
        refine go_iload (i := 7) rfl dX11_unseen_28 ?_
        refine gz_lt (by omega) (tgt := 41) dX11_unseen_30 (by decide) (fun h30 => by exfalso; omega) (fun h30 => ?_)
        refine go_iload (i := 5) rfl dX11_unseen_33 ?_
        refine go_callS okmX11_isThick lmX11_235 ⟨nle rfl, nle rfl⟩ (ev_isThick) npmX11_isThick rfl (nle rfl) ⟨nle rfl, nle rfl⟩ dX11_unseen_35 ?_
        rintro _ mz ⟨rfl, hz⟩
        subst mz
        rw [th_in, hth]
        refine go_c1 ?_
        refine gz_ne (by omega) (tgt := 43) dX11_unseen_38 (by decide) (fun h38 => by exfalso; omega) (fun h38 => ?_)
        refine go_iconst (v := -1) (by decide) dX11_unseen_41 ?_
        refine go_iret rfl ⟨Nat.zero_le _, Nat.zero_le _⟩ dX11_unseen_42 ?_
        refine ⟨?_, Ch.rf⟩
        simp only [unS, hca, hca2, hth, i10, reduceIte, cpos (show 8 * b + a < 2 ^ 31 by omega), cpos (show 8 * b2 + a2 < 2 ^ 31 by omega)]
      · skip
        have key : ∀ i, i ≤ 41 → ∀ (mi : Me) (xi : Int64), Ch (LkS pl) m mi → CR P (gw mi 21) (hrN P (-1) P.se i r) → BS xi (unR P r (nI t) (8 * b + a) i) → fsN (unF P r (nI t) (8 * b + a) (8 * b2 + a2)) 41 0 = fsN (unF P r (nI t) (8 * b + a) (8 * b2 + a2)) (41 - i) i → Go mX11_unseen (fun o m' => o = some (.int (unS P r (nI a) (nI b) (nI a2) (nI b2) (nI t))) ∧ Ch (LkS pl) m m') 73 [some (.ref 0), some (.int (nI a)), some (.int (nI b)), some (.int (nI a2)), some (.int (nI b2)), some (.int (nI t)), some (.int (nI (8 * b + a))), some (.int (nI (8 * b2 + a2))), some (.long xi), none, some (.int (nI i))] [] mi 0 0 := by
          refine loop_up 41 ?_ ?_
          · intro mi xi c1 hci hbs hf
            have hX0 := hX
            have hX := CX.to c1 hX
            have hP := hP.lk hX0 c1
            refine go_iload (i := 10) rfl dX11_unseen_73 ?_
            refine go_bipush (v := nI 40) (by decide) dX11_unseen_75 ?_
            refine gn_gt (by omega) (by omega) (tgt := 148) dX11_unseen_77 (by decide) (fun h77 => ?_) (fun h77 => by exfalso; omega)
            refine go_bipush (v := -2) (by decide) dX11_unseen_148 ?_
            refine go_iret rfl ⟨Nat.zero_le _, Nat.zero_le _⟩ dX11_unseen_150 ?_
            refine ⟨?_, c1⟩
            simp only [unS, hca, hca2, hth, i10, reduceIte, cpos (show 8 * b + a < 2 ^ 31 by omega), cpos (show 8 * b2 + a2 < 2 ^ 31 by omega), nI_clamp (show 8 * b + a < 2 ^ 31 by omega), nI_clamp (show 8 * b2 + a2 < 2 ^ 31 by omega)]
            rw [hf, fs_e]
          · intro i hi ih mi xi c1 hci hbs hf
            have hX0 := hX
            have hX := CX.to c1 hX
            have hP := hP.lk hX0 c1
            refine go_iload (i := 10) rfl dX11_unseen_73 ?_
            refine go_bipush (v := nI 40) (by decide) dX11_unseen_75 ?_
            refine gn_gt (by omega) (by omega) (tgt := 148) dX11_unseen_77 (by decide) (fun h77 => by exfalso; omega) (fun h77 => ?_)
            refine go_lload (i := 8) rfl dX11_unseen_80 ?_
            refine go_lconst (v := 0) (by decide) dX11_unseen_82 ?_
            refine go_lcmp dX11_unseen_83 ?_
            refine go_if_eq (tgt := 148) dX11_unseen_84 (by decide) (fun h84 => ?_) (fun h84 => ?_)
            · skip
              refine go_bipush (v := -2) (by decide) dX11_unseen_148 ?_
              refine go_iret rfl ⟨Nat.zero_le _, Nat.zero_le _⟩ dX11_unseen_150 ?_
              refine ⟨?_, c1⟩
              simp only [unS, hca, hca2, hth, i10, reduceIte, cpos (show 8 * b + a < 2 ^ 31 by omega), cpos (show 8 * b2 + a2 < 2 ^ 31 by omega), nI_clamp (show 8 * b + a < 2 ^ 31 by omega), nI_clamp (show 8 * b2 + a2 < 2 ^ 31 by omega)]
              have hn := hbs.n0.mp (cmp_0.mp h84)
              rw [hf, fs_none _ _ (fun j hj => by
                show pit _ _ _ = _
                rw [show j = i + (j - i) by omega]
                exact pit_f (un_none hn _ _))]
            · skip
              refine go_lload (i := 8) rfl dX11_unseen_87 ?_
              refine go_iload (i := 7) rfl dX11_unseen_89 ?_
              refine go_lushr dX11_unseen_91 ?_
              refine go_lconst (v := 1) (by decide) dX11_unseen_92 ?_
              refine go_land dX11_unseen_93 ?_
              refine go_lconst (v := 0) (by decide) dX11_unseen_94 ?_
              refine go_lcmp dX11_unseen_95 ?_
              refine go_if_eq (tgt := 102) dX11_unseen_96 (by decide) (fun h96 => ?_) (fun h96 => ?_)
              · skip
                refine go_aload_n (q := 0) (i := 0) rfl rfl dX11_unseen_102 ?_
                refine go_getR lf11_40 rfl hX.o hX.r4 dX11_unseen_103 ?_
                refine go_aload_n (q := 0) (i := 0) rfl rfl dX11_unseen_106 ?_
                refine go_getR lf11_86 rfl hX.o hX.rp dX11_unseen_107 ?_
                refine go_aload_n (q := 0) (i := 0) rfl rfl dX11_unseen_110 ?_
                refine go_getR lf11_51 rfl hX.o hX.r6 dX11_unseen_111 ?_
                refine go_aload_n (q := 0) (i := 0) rfl rfl dX11_unseen_114 ?_
                refine go_getR lf11_86 rfl hX.o hX.rp dX11_unseen_115 ?_
                refine go_getI lf11_208 rfl hX.wp.o dX11_unseen_118 ?_
                rw [hP.se]
                refine go_iconst (v := -1) (by decide) dX11_unseen_121 ?_
                refine go_callV okmX8_passHour lmX11_238 ⟨nle rfl, nle rfl⟩ hX.w4.o ⟨by decide, rfl⟩ (ev_hour (M := M + i) (se := P.se) (lk := -1) hX.w4 hX.wp hX.w6 hP ok (by omega) (by omega) (by omega) (by omega) (hrN_ok ok hr i (by omega)) hci) npmX8_passHour rfl (nle rfl) ⟨nle rfl, nle rfl⟩ dX11_unseen_122 ?_
                rintro _ m2 ⟨rfl, c2, h2⟩
                have c2 : Ch (LkS pl) mi m2 := c2.mn (fun x hx => by unfold LkS; omega)
                have hP := hP.lk hX c2
                have hX := CX.to c2 hX
                refine go_c0 ?_
                refine go_lload (i := 8) rfl dX11_unseen_125 ?_
                refine go_callS okmX11_withNeighbours lmX11_250 ⟨nle rfl, nle rfl⟩ (ev_wn) npmX11_withNeighbours rfl (nle rfl) ⟨nle rfl, nle rfl⟩ dX11_unseen_127 ?_
                rintro _ mz ⟨rfl, hz⟩
                subst mz
                refine go_c1 ?_
                refine go_aload_n (q := 0) (i := 0) rfl rfl dX11_unseen_130 ?_
                refine go_getR lf11_51 rfl hX.o hX.r6 dX11_unseen_131 ?_
                refine go_iload (i := 5) rfl dX11_unseen_134 ?_
                refine go_callV okmX1_asThick lmX11_246 ⟨nle rfl, nle rfl⟩ hX.w6.o ⟨by decide, rfl⟩ (ev_asThick hX.w6) npmX1_asThick rfl (nle rfl) ⟨nle rfl, nle rfl⟩ dX11_unseen_136 ?_
                rintro _ mz ⟨rfl, hz⟩
                subst mz
                refine go_c1 ?_
                refine go_land dX11_unseen_139 ?_
                refine go_lstore (i := 8) dX11_unseen_140 (nle rfl) (nle rfl) ?_
                refine gn_inc (i := 10) (a := i) (q := 1) rfl dX11_unseen_142 (nle rfl) rfl ?_
                refine go_goto (tgt := 73) dX11_unseen_145 (by decide) ?_
                refine ih _ _ (c1.tr c2) h2 ?_ (hf.trans (fs_n hi (pit_f (hbs.at.mp ((bt_look (by omega)).mp h96)))))
                exact (hbs.wn (at_bs (M := M + (i + 1)) ok (hrN_ok ok hr (i + 1) (by omega)) h2) (fun c z => (un_ld (by omega) (ld_ab ok ha hb) _ _ z).1) (fun c z => z.1)).c (fun c => and_comm)
              · skip
                refine go_iload (i := 10) rfl dX11_unseen_99 ?_
                refine go_iret rfl ⟨Nat.zero_le _, Nat.zero_le _⟩ dX11_unseen_101 ?_
                refine ⟨?_, c1⟩
                simp only [unS, hca, hca2, hth, i10, reduceIte, cpos (show 8 * b + a < 2 ^ 31 by omega), cpos (show 8 * b2 + a2 < 2 ^ 31 by omega), nI_clamp (show 8 * b + a < 2 ^ 31 by omega), nI_clamp (show 8 * b2 + a2 < 2 ^ 31 by omega)]
                rw [hf, fs_s hi (pit_t ((hbs _).mp (Classical.byContradiction (fun z => h96 ((bt_look (by omega)).mpr (Bool.eq_false_iff.mpr z))))))]
        refine go_aload_n (q := 0) (i := 0) rfl rfl dX11_unseen_0 ?_
        refine go_getR lf11_86 rfl hX.o hX.rp dX11_unseen_1 ?_
        refine go_iload_n (q := 1) (i := 1) rfl rfl dX11_unseen_4 ?_
        refine go_iload_n (q := 2) (i := 2) rfl rfl dX11_unseen_5 ?_
        refine go_callV okmX7_cellAt lmX11_126 ⟨nle rfl, nle rfl⟩ hX.wp.o ⟨by decide, rfl⟩ (ev_cellAt hX.wp) npmX7_cellAt rfl (nle rfl) ⟨nle rfl, nle rfl⟩ dX11_unseen_6 ?_
        rintro _ mz ⟨rfl, hz⟩
        subst mz
        rw [hP.wd, hP.rw, show caS (nI P.wd) (nI P.rw) _ _ = _ from hca]
        refine go_c1 ?_
        refine go_istore (i := 6) dX11_unseen_9 (nle rfl) (nle rfl) ?_
        refine go_aload_n (q := 0) (i := 0) rfl rfl dX11_unseen_11 ?_
        refine go_getR lf11_86 rfl hX.o hX.rp dX11_unseen_12 ?_
        refine go_iload_n (q := 3) (i := 3) rfl rfl dX11_unseen_15 ?_
        refine go_iload (i := 4) rfl dX11_unseen_16 ?_
        refine go_callV okmX7_cellAt lmX11_126 ⟨nle rfl, nle rfl⟩ hX.wp.o ⟨by decide, rfl⟩ (ev_cellAt hX.wp) npmX7_cellAt rfl (nle rfl) ⟨nle rfl, nle rfl⟩ dX11_unseen_18 ?_
        rintro _ mz ⟨rfl, hz⟩
        subst mz
        rw [hP.wd, hP.rw, show caS (nI P.wd) (nI P.rw) _ _ = _ from hca2]
        refine go_c1 ?_
        refine go_istore (i := 7) dX11_unseen_21 (nle rfl) (nle rfl) ?_
        refine go_iload (i := 6) rfl dX11_unseen_23 ?_
        refine gz_lt (by omega) (tgt := 41) dX11_unseen_25 (by decide) (fun h25 => by exfalso; omega) (fun h25 => ?_)
        refine go_iload (i := 7) rfl dX11_unseen_28 ?_
        refine gz_lt (by omega) (tgt := 41) dX11_unseen_30 (by decide) (fun h30 => by exfalso; omega) (fun h30 => ?_)
        refine go_iload (i := 5) rfl dX11_unseen_33 ?_
        refine go_callS okmX11_isThick lmX11_235 ⟨nle rfl, nle rfl⟩ (ev_isThick) npmX11_isThick rfl (nle rfl) ⟨nle rfl, nle rfl⟩ dX11_unseen_35 ?_
        rintro _ mz ⟨rfl, hz⟩
        subst mz
        rw [th_in, hth]
        refine go_c1 ?_
        refine gz_ne (by omega) (tgt := 43) dX11_unseen_38 (by decide) (fun h38 => ?_) (fun h38 => by exfalso; omega)
        refine go_aload_n (q := 0) (i := 0) rfl rfl dX11_unseen_43 ?_
        refine go_getR lf11_51 rfl hX.o hX.r6 dX11_unseen_44 ?_
        refine go_aload_n (q := 0) (i := 0) rfl rfl dX11_unseen_47 ?_
        refine go_getR lf11_47 rfl hX.o hX.r5 dX11_unseen_48 ?_
        refine go_callV okmX1_copyFrom lmX11_205 ⟨nle rfl, nle rfl⟩ hX.w6.o ⟨by decide, rfl⟩ (ev_copyFrom hX.w6 hX.w5 (by omega)) npmX1_copyFrom rfl (nle rfl) ⟨nle rfl, nle rfl⟩ dX11_unseen_51 ?_
        rintro _ m1 ⟨rfl, cA, eA⟩
        have c1 : Ch (LkS pl) m m1 := cA.mn (fun x hx => by unfold LkS; omega)
        have hP := hP.lk hX c1
        have hX := CX.to c1 hX
        have hc1 : CR P (gw m1 21) r := by rw [eA]; exact hc
        refine go_c0 ?_
        refine go_lconst (v := 1) (by decide) dX11_unseen_54 ?_
        refine go_iload (i := 6) rfl dX11_unseen_55 ?_
        refine go_lshl dX11_unseen_57 ?_
        refine go_aload_n (q := 0) (i := 0) rfl rfl dX11_unseen_58 ?_
        refine go_getR lf11_51 rfl hX.o hX.r6 dX11_unseen_59 ?_
        refine go_iload (i := 5) rfl dX11_unseen_62 ?_
        refine go_callV okmX1_asThick lmX11_246 ⟨nle rfl, nle rfl⟩ hX.w6.o ⟨by decide, rfl⟩ (ev_asThick hX.w6) npmX1_asThick rfl (nle rfl) ⟨nle rfl, nle rfl⟩ dX11_unseen_64 ?_
        rintro _ mz ⟨rfl, hz⟩
        subst mz
        refine go_c1 ?_
        refine go_land dX11_unseen_67 ?_
        refine go_lstore (i := 8) dX11_unseen_68 (nle rfl) (nle rfl) ?_
        refine go_iconst (v := nI 0) (by decide) dX11_unseen_70 ?_
        refine go_istore (i := 10) dX11_unseen_71 (nle rfl) (nle rfl) ?_
        refine key 0 (Nat.zero_le _) m1 _ c1 hc1 ?_ rfl
        exact ((BS.one (show 8 * b + a < 64 by omega)).and (at_bs ok hr hc1)).c (fun c => ⟨fun z => ⟨z.1, by rw [← z.1]; exact z.2.2.2⟩, fun z => ⟨z.1, by rw [z.1]; exact ⟨by omega, ld_ab ok ha hb, z.2⟩⟩⟩)
theorem RfK.md {m m' : Me} {P : Pl} {lv : Nat} (h : RfK m m') (k : MdC m P lv) : MdC m' P lv := k.keep (h.2.1 18 (by decide) (by decide) (by decide)) (fun x a b => h.1.at (by unfold RfA; omega))
theorem RfK.wf {m m' : Me} (h : RfK m m') (k : Wf12 m.1 (gR m)) : Wf12 m'.1 (gR m') := Ch.to (F := fun n R => Wf12 n R) h.1 k
theorem RfK.c2 {m m' : Me} (h : Ch (fun x => x = 319 ∨ x = 320 ∨ x = 321 ∨ x = 325) m m') (t : ThR m → ThR m') : RfK m m' :=
  ⟨h.mn (fun x hx => by unfold RfA; omega), fun k _ _ _ => by rw [h.at (x := 274) (by omega)], t⟩
theorem z01 {v : Int32} (h : v = nI 0 ∨ v = nI 1) : narrow .boolean (.int v) = .int v := by
  rcases h with h | h <;> rw [h] <;> decide
theorem ThR.up {m : Me} {n : Nat} {v : Int32} (h : ThR m) (hv : v = nI 0 ∨ v = nI 1) : ThR (sI m 320 (upd (gI m 320) n v)) := ⟨fun k hk => by
  rw [gI_s]
  by_cases e : k = n
  · rw [e, upd_eq]; exact hv
  · rw [upd_ne e]; exact h.1 k hk, by unfold WvR; rw [gI_n (show 274 ≠ 320 by decide), gI_n (show 312 ≠ 320 by decide)]; exact h.2⟩
theorem tr_up {P : Pl} {T : Nat → Int32} {U : Nat → Prop} {n : Nat} {v : Int32} (h : ∀ c, c < n → ld P c → (¬ T c = 0 ↔ U c)) (hv : ¬ v = 0 ↔ U n) : ∀ c, c < n + 1 → ld P c → (¬ upd T n v c = 0 ↔ U c) := fun c hc l => by
  by_cases e : c = n
  · subst e; rw [upd_eq]; exact hv
  · rw [upd_ne e]; exact h c (by omega) l
theorem fl_up {T : Nat → Int32} {n : Nat} {v : Int32} (h : ∀ c, c < n → T c = v) : ∀ c, c < n + 1 → upd T n v c = v := fun c hc => by
  by_cases e : c = n
  · subst e; exact upd_eq
  · rw [upd_ne e]; exact h c (by omega)
theorem sm_up {T F : Nat → Int32} {n : Nat} (h : ∀ c, c < n → T c = F c) : ∀ c, c < n + 1 → upd T n (F n) c = F c := fun c hc => by
  by_cases e : c = n
  · subst e; exact upd_eq
  · rw [upd_ne e]; exact h c (by omega)
theorem CX12 {A : Nat → Prop} {m m' : Me} (c : Ch A m m') (h : Wf12 m.1 (gR m)) : Wf12 m'.1 (gR m') := Ch.to (F := fun n R => Wf12 n R) c h
theorem md1 {m m' : Me} {P : Pl} {lv : Nat} (c : Ch (fun x => x = 319) m m') (h : MdC m P lv) : MdC m' P lv := h.keep (by rw [c.at (x := 274) (by omega)]) (fun x a b => c.at (by omega))
theorem md2 {m m' : Me} {P : Pl} {lv : Nat} (c : Ch (fun x => x = 320) m m') (h : MdC m P lv) : MdC m' P lv := h.keep (by rw [c.at (x := 274) (by omega)]) (fun x a b => c.at (by omega))
set_option maxRecDepth 100000 in
set_option maxHeartbeats 8000000 in
theorem ex_unseen {m : Me} {P : Pl} {lv : Nat} (hx : Wf12 m.1 (gR m)) (hm : MdC m P lv) (ok : PlOk P) (ht0 : ThR m) {x y x2 y2 th : Int32} : Ev mX12_unseen [.ref 274, .int x, .int y, .int x2, .int y2, .int th] m (fun o m' => o = some (.int (unS P (cp 105 (gI m 315) (gI m 316)) x y x2 y2 th)) ∧ RfK m m') := by
  refine ⟨plmX12_unseen, nle rfl, ?_⟩
  have hw8 := ok.1
  have hr5 := ok.2.1
  have hlv := hm.lv
  have hh4 := ok.2.2.1
  have hu6 := ok.2.2.2.1
  rcases ce_c ok x y with ⟨hca, hic⟩ | ⟨a, b, ha, hb, rfl, rfl, hca, hic⟩
  · skip
    refine go_aload_n (q := 0) (i := 0) rfl rfl dX12_unseen_0 ?_
    refine go_iload_n (q := 1) (i := 1) rfl rfl dX12_unseen_1 ?_
    refine go_iload_n (q := 2) (i := 2) rfl rfl dX12_unseen_2 ?_
    refine go_callV okmX12_isCell lmX12_394 ⟨nle rfl, nle rfl⟩ hx.o ⟨by decide, rfl⟩ (ex_isCell hx hm) npmX12_isCell rfl (nle rfl) ⟨nle rfl, nle rfl⟩ dX12_unseen_3 ?_
    rintro _ mz ⟨rfl, hz⟩
    subst mz
    rw [hic]
    refine go_c1 ?_
    refine gz_eq (by omega) (tgt := 27) dX12_unseen_6 (by decide) (fun h6 => ?_) (fun h6 => by exfalso; omega)
    refine go_iconst (v := -1) (by decide) dX12_unseen_27 ?_
    refine go_iret rfl ⟨Nat.zero_le _, Nat.zero_le _⟩ dX12_unseen_28 ?_
    refine ⟨?_, RfK.rf⟩
    simp only [unS, hca, i10, reduceIte, cneg]
  · skip
    rcases ce_c ok x2 y2 with ⟨hca2, hic2⟩ | ⟨a2, b2, ha2, hb2, rfl, rfl, hca2, hic2⟩
    · skip
      refine go_aload_n (q := 0) (i := 0) rfl rfl dX12_unseen_0 ?_
      refine go_iload_n (q := 1) (i := 1) rfl rfl dX12_unseen_1 ?_
      refine go_iload_n (q := 2) (i := 2) rfl rfl dX12_unseen_2 ?_
      refine go_callV okmX12_isCell lmX12_394 ⟨nle rfl, nle rfl⟩ hx.o ⟨by decide, rfl⟩ (ex_isCell hx hm) npmX12_isCell rfl (nle rfl) ⟨nle rfl, nle rfl⟩ dX12_unseen_3 ?_
      rintro _ mz ⟨rfl, hz⟩
      subst mz
      rw [hic]
      refine go_c1 ?_
      refine gz_eq (by omega) (tgt := 27) dX12_unseen_6 (by decide) (fun h6 => by exfalso; omega) (fun h6 => ?_)
      refine go_aload_n (q := 0) (i := 0) rfl rfl dX12_unseen_9 ?_
      refine go_iload_n (q := 3) (i := 3) rfl rfl dX12_unseen_10 ?_
      refine go_iload (i := 4) rfl dX12_unseen_11 ?_
      refine go_callV okmX12_isCell lmX12_394 ⟨nle rfl, nle rfl⟩ hx.o ⟨by decide, rfl⟩ (ex_isCell hx hm) npmX12_isCell rfl (nle rfl) ⟨nle rfl, nle rfl⟩ dX12_unseen_13 ?_
      rintro _ mz ⟨rfl, hz⟩
      subst mz
      rw [hic2]
      refine go_c1 ?_
      refine gz_eq (by omega) (tgt := 27) dX12_unseen_16 (by decide) (fun h16 => ?_) (fun h16 => by exfalso; omega)
      refine go_iconst (v := -1) (by decide) dX12_unseen_27 ?_
      refine go_iret rfl ⟨Nat.zero_le _, Nat.zero_le _⟩ dX12_unseen_28 ?_
      refine ⟨?_, RfK.rf⟩
      simp only [unS, hca, hca2, i10, reduceIte, cneg, cpos (show 8 * b + a < 2 ^ 31 by omega)]
    · skip
      rcases in_c th (N := 99) (by decide) with hth | ⟨t, ht, rfl, hth⟩
      · skip
        refine go_aload_n (q := 0) (i := 0) rfl rfl dX12_unseen_0 ?_
        refine go_iload_n (q := 1) (i := 1) rfl rfl dX12_unseen_1 ?_
        refine go_iload_n (q := 2) (i := 2) rfl rfl dX12_unseen_2 ?_
        refine go_callV okmX12_isCell lmX12_394 ⟨nle rfl, nle rfl⟩ hx.o ⟨by decide, rfl⟩ (ex_isCell hx hm) npmX12_isCell rfl (nle rfl) ⟨nle rfl, nle rfl⟩ dX12_unseen_3 ?_
        rintro _ mz ⟨rfl, hz⟩
        subst mz
        rw [hic]
        refine go_c1 ?_
        refine gz_eq (by omega) (tgt := 27) dX12_unseen_6 (by decide) (fun h6 => by exfalso; omega) (fun h6 => ?_)
        refine go_aload_n (q := 0) (i := 0) rfl rfl dX12_unseen_9 ?_
        refine go_iload_n (q := 3) (i := 3) rfl rfl dX12_unseen_10 ?_
        refine go_iload (i := 4) rfl dX12_unseen_11 ?_
        refine go_callV okmX12_isCell lmX12_394 ⟨nle rfl, nle rfl⟩ hx.o ⟨by decide, rfl⟩ (ex_isCell hx hm) npmX12_isCell rfl (nle rfl) ⟨nle rfl, nle rfl⟩ dX12_unseen_13 ?_
        rintro _ mz ⟨rfl, hz⟩
        subst mz
        rw [hic2]
        refine go_c1 ?_
        refine gz_eq (by omega) (tgt := 27) dX12_unseen_16 (by decide) (fun h16 => by exfalso; omega) (fun h16 => ?_)
        refine go_iload (i := 5) rfl dX12_unseen_19 ?_
        refine go_callS okmX12_isThick lmX12_447 ⟨nle rfl, nle rfl⟩ (ex_isThick) npmX12_isThick rfl (nle rfl) ⟨nle rfl, nle rfl⟩ dX12_unseen_21 ?_
        rintro _ mz ⟨rfl, hz⟩
        subst mz
        rw [hth]
        refine go_c1 ?_
        refine gz_ne (by omega) (tgt := 29) dX12_unseen_24 (by decide) (fun h24 => by exfalso; omega) (fun h24 => ?_)
        refine go_iconst (v := -1) (by decide) dX12_unseen_27 ?_
        refine go_iret rfl ⟨Nat.zero_le _, Nat.zero_le _⟩ dX12_unseen_28 ?_
        refine ⟨?_, RfK.rf⟩
        simp only [unS, hca, hca2, hth, i10, reduceIte, cpos (show 8 * b + a < 2 ^ 31 by omega), cpos (show 8 * b2 + a2 < 2 ^ 31 by omega)]
      · skip
        have key : ∀ i, i ≤ 41 → ∀ mi : Me, RfK m mi → gI mi 316 = (hrN P (-1) P.se i (cp 105 (gI m 315) (gI m 316))) → gI mi 274 60 = P.se → gI mi 274 61 = -1 → (∀ c, c < 40 → ld P c → (¬ gI mi 319 c = 0 ↔ unR P (cp 105 (gI m 315) (gI m 316)) (nI t) (8 * b + a) i c)) → fsN (unF P (cp 105 (gI m 315) (gI m 316)) (nI t) (8 * b + a) (8 * b2 + a2)) 41 0 = fsN (unF P (cp 105 (gI m 315) (gI m 316)) (nI t) (8 * b + a) (8 * b2 + a2)) (41 - i) i → ∀ x7 x8 : Option Value, Go mX12_unseen (fun o m' => o = some (.int (unS P (cp 105 (gI m 315) (gI m 316)) (nI a) (nI b) (nI a2) (nI b2) (nI t))) ∧ RfK m m') 92 [some (.ref 274), some (.int (nI a)), some (.int (nI b)), some (.int (nI a2)), some (.int (nI b2)), some (.int (nI t)), some (.int (nI i)), x7, x8] [] mi 0 0 := by
          refine loop_up 41 ?_ ?_
          · intro mi c1 ei si li hT hf x7 x8
            have hx := c1.wf hx
            have hm := c1.md hm
            refine go_iload (i := 6) rfl dX12_unseen_92 ?_
            refine go_bipush (v := nI 40) (by decide) dX12_unseen_94 ?_
            refine gn_gt (by omega) (by omega) (tgt := 250) dX12_unseen_96 (by decide) (fun h96 => ?_) (fun h96 => by exfalso; omega)
            refine go_bipush (v := -2) (by decide) dX12_unseen_250 ?_
            refine go_iret rfl ⟨Nat.zero_le _, Nat.zero_le _⟩ dX12_unseen_252 ?_
            refine ⟨?_, c1⟩
            simp only [unS, hca, hca2, hth, i10, reduceIte, cpos (show 8 * b + a < 2 ^ 31 by omega), cpos (show 8 * b2 + a2 < 2 ^ 31 by omega), nI_clamp (show 8 * b + a < 2 ^ 31 by omega), nI_clamp (show 8 * b2 + a2 < 2 ^ 31 by omega)]
            rw [hf, fs_e]
          · intro i hi ih mi c1 ei si li hT hf x7 x8
            have hx := c1.wf hx
            have hm := c1.md hm
            refine go_iload (i := 6) rfl dX12_unseen_92 ?_
            refine go_bipush (v := nI 40) (by decide) dX12_unseen_94 ?_
            refine gn_gt (by omega) (by omega) (tgt := 250) dX12_unseen_96 (by decide) (fun h96 => by exfalso; omega) (fun h96 => ?_)
            refine go_aload_n (q := 0) (i := 0) rfl rfl dX12_unseen_99 ?_
            refine go_getR lf12_152 rfl hx.o hx.r65 dX12_unseen_100 ?_
            refine go_bipush (v := nI 8) (by decide) dX12_unseen_103 ?_
            refine go_iload (i := 4) rfl dX12_unseen_105 ?_
            refine gn_mul dX12_unseen_107 ?_
            refine go_iload_n (q := 3) (i := 3) rfl rfl dX12_unseen_108 ?_
            refine gn_add dX12_unseen_109 ?_
            refine go_zald (j := ((8 * b2) + a2)) hx.i65 (by omega) (by first | decide | omega) rfl dX12_unseen_110 ?_
            refine go_if_eq (tgt := 117) dX12_unseen_111 (by decide) (fun h111 => ?_) (fun h111 => ?_)
            · skip
              refine go_aload_n (q := 0) (i := 0) rfl rfl dX12_unseen_117 ?_
              refine go_callV okmX12_hourGoes lmX12_410 ⟨nle rfl, nle rfl⟩ hx.o ⟨by decide, rfl⟩ (ex_hourGoes hx hm ok) npmX12_hourGoes rfl (nle rfl) ⟨nle rfl, nle rfl⟩ dX12_unseen_118 ?_
              rintro _ m2 ⟨rfl, cB, e2⟩
              rw [ei, si, li] at e2
              have hx := cB.1.wf hx
              have hm := cB.1.md hm
              have s2 : gI m2 274 60 = P.se := cB.2.1.trans si
              have l2 : gI m2 274 61 = -1 := cB.2.2.trans li
              have hth2 : ThR m2 := (c1.2.2 ht0).of (cB.1.1.at (by omega)) (cB.1.2 54 (by decide) (by decide) (by decide)) (cB.1.1.at (by omega))
              have hx2 := hx
              have hm2 := hm
              refine go_c0 ?_
              refine go_iconst (v := nI 0) (by decide) dX12_unseen_121 ?_
              refine go_istore (i := 7) dX12_unseen_122 (nle rfl) (nle rfl) ?_
              have key2 : ∀ v, v ≤ P.rw → ∀ mj : Me, Ch (fun x => x = 320) m2 mj → ThR mj → (∀ c, c < 8 * v → ld P c → (¬ gI mj 320 c = 0 ↔ unR P (cp 105 (gI m 315) (gI m 316)) (nI t) (8 * b + a) (i + 1) c)) → ∀ x8 : Option Value, Go mX12_unseen (fun o m' => o = some (.int (unS P (cp 105 (gI m 315) (gI m 316)) (nI a) (nI b) (nI a2) (nI b2) (nI t))) ∧ RfK m m') 124 [some (.ref 274), some (.int (nI a)), some (.int (nI b)), some (.int (nI a2)), some (.int (nI b2)), some (.int (nI t)), some (.int (nI i)), some (.int (nI v)), x8] [] mj 0 0 := by
                refine loop_up P.rw ?_ ?_
                · intro mj cj hth hJ x8
                  have hx := CX12 cj hx2
                  have hm := md2 cj hm2
                  refine go_iload (i := 7) rfl dX12_unseen_124 ?_
                  refine go_aload_n (q := 0) (i := 0) rfl rfl dX12_unseen_126 ?_
                  refine go_getR lf12_49 rfl hx.o hx.r24 dX12_unseen_127 ?_
                  refine go_aload_n (q := 0) (i := 0) rfl rfl dX12_unseen_130 ?_
                  refine go_getI lf12_260 rfl hx.o dX12_unseen_131 ?_
                  rw [hm.li]
                  refine go_iald (j := lv) hx.i24 (by omega) (by first | decide | omega) rfl dX12_unseen_134 ?_
                  rw [hm.rw]
                  refine gn_ge (by omega) (by omega) (tgt := 214) dX12_unseen_135 (by decide) (fun h135 => ?_) (fun h135 => by exfalso; omega)
                  refine go_iconst (v := nI 0) (by decide) dX12_unseen_214 ?_
                  refine go_istore (i := 7) dX12_unseen_215 (nle rfl) (nle rfl) ?_
                  have key4 : ∀ q, q ≤ 40 → ∀ mk : Me, Ch (fun x => x = 319) mj mk → (∀ c, c < q → gI mk 319 c = gI mj 320 c) → ∀ x8 : Option Value, Go mX12_unseen (fun o m' => o = some (.int (unS P (cp 105 (gI m 315) (gI m 316)) (nI a) (nI b) (nI a2) (nI b2) (nI t))) ∧ RfK m m') 217 [some (.ref 274), some (.int (nI a)), some (.int (nI b)), some (.int (nI a2)), some (.int (nI b2)), some (.int (nI t)), some (.int (nI i)), some (.int (nI q)), x8] [] mk 0 0 := by
                    refine loop_up 40 ?_ ?_
                    · intro mk ck hk x8
                      have hx := CX12 ck hx
                      have hm := md1 ck hm
                      refine go_iload (i := 7) rfl dX12_unseen_217 ?_
                      refine go_bipush (v := nI 40) (by decide) dX12_unseen_219 ?_
                      refine gn_ge (by omega) (by omega) (tgt := 244) dX12_unseen_221 (by decide) (fun h221 => ?_) (fun h221 => by exfalso; omega)
                      refine gn_inc (i := 6) (a := i) (q := 1) rfl dX12_unseen_244 (nle rfl) rfl ?_
                      refine go_goto (tgt := 92) dX12_unseen_247 (by decide) ?_
                      refine ih _ (((c1.tr (RfK.of cB.1)).tr (RfK.c2 (cj.mn (fun x hx => by omega)) (fun _ => hth))).tr (RfK.c2 (ck.mn (fun x hx => by omega)) (fun z => z.of (ck.at (by omega)) (by rw [ck.at (x := 274) (by omega)]) (ck.at (by omega))))) ?_ ?_ ?_ (fun c hc l => ?_) (hf.trans (fs_n hi (pit_f (fun z => absurd ((hT _ (by omega) (ld_ab ok ha2 hb2)).mpr z) (Classical.not_not.mpr h111))))) _ _
                      · rw [ck.at (by omega), cj.at (by omega), e2]; rfl
                      · rw [ck.at (by omega), cj.at (by omega)]; exact s2
                      · rw [ck.at (by omega), cj.at (by omega)]; exact l2
                      · rw [hk c hc]; exact hJ c (by have := l.2; omega) l
                    · intro q hq ihq mk ck hk x8
                      have hx := CX12 ck hx
                      have hm := md1 ck hm
                      refine go_iload (i := 7) rfl dX12_unseen_217 ?_
                      refine go_bipush (v := nI 40) (by decide) dX12_unseen_219 ?_
                      refine gn_ge (by omega) (by omega) (tgt := 244) dX12_unseen_221 (by decide) (fun h221 => by exfalso; omega) (fun h221 => ?_)
                      refine go_aload_n (q := 0) (i := 0) rfl rfl dX12_unseen_224 ?_
                      refine go_getR lf12_152 rfl hx.o hx.r65 dX12_unseen_225 ?_
                      refine go_iload (i := 7) rfl dX12_unseen_228 ?_
                      refine go_aload_n (q := 0) (i := 0) rfl rfl dX12_unseen_230 ?_
                      refine go_getR lf12_155 rfl hx.o hx.r66 dX12_unseen_231 ?_
                      refine go_iload (i := 7) rfl dX12_unseen_234 ?_
                      refine go_zald (j := q) hx.i66 (by omega) (by first | decide | omega) rfl dX12_unseen_236 ?_
                      refine go_zast (j := q) hx.i65 (by omega) (by first | decide | omega) rfl (z01 (by rw [show gI mk 320 = gI mj 320 from ck.at (by omega)]; exact hth.1 _ hq)) dX12_unseen_237 ?_
                      refine gn_inc (i := 7) (a := q) (q := 1) rfl dX12_unseen_238 (nle rfl) rfl ?_
                      refine go_goto (tgt := 217) dX12_unseen_241 (by decide) ?_
                      rw [show gI mk 320 q = gI mj 320 q by rw [ck.at (by omega)]]
                      exact ihq _ (ck.tr (Ch.I rfl)) (by rw [gI_s]; exact sm_up hk) _
                  exact key4 0 (Nat.zero_le _) mj Ch.rf (fun c hc => absurd hc (Nat.not_lt_zero c)) _
                · intro v hv ihv mj cj hth hJ x8
                  have hx := CX12 cj hx2
                  have hm := md2 cj hm2
                  refine go_iload (i := 7) rfl dX12_unseen_124 ?_
                  refine go_aload_n (q := 0) (i := 0) rfl rfl dX12_unseen_126 ?_
                  refine go_getR lf12_49 rfl hx.o hx.r24 dX12_unseen_127 ?_
                  refine go_aload_n (q := 0) (i := 0) rfl rfl dX12_unseen_130 ?_
                  refine go_getI lf12_260 rfl hx.o dX12_unseen_131 ?_
                  rw [hm.li]
                  refine go_iald (j := lv) hx.i24 (by omega) (by first | decide | omega) rfl dX12_unseen_134 ?_
                  rw [hm.rw]
                  refine gn_ge (by omega) (by omega) (tgt := 214) dX12_unseen_135 (by decide) (fun h135 => by exfalso; omega) (fun h135 => ?_)
                  refine go_iconst (v := nI 0) (by decide) dX12_unseen_138 ?_
                  refine go_istore (i := 8) dX12_unseen_139 (nle rfl) (nle rfl) ?_
                  have key3 : ∀ u, u ≤ P.wd → ∀ mj : Me, Ch (fun x => x = 320) m2 mj → ThR mj → (∀ c, c < 8 * v + u → ld P c → (¬ gI mj 320 c = 0 ↔ unR P (cp 105 (gI m 315) (gI m 316)) (nI t) (8 * b + a) (i + 1) c)) → Go mX12_unseen (fun o m' => o = some (.int (unS P (cp 105 (gI m 315) (gI m 316)) (nI a) (nI b) (nI a2) (nI b2) (nI t))) ∧ RfK m m') 141 [some (.ref 274), some (.int (nI a)), some (.int (nI b)), some (.int (nI a2)), some (.int (nI b2)), some (.int (nI t)), some (.int (nI i)), some (.int (nI v)), some (.int (nI u))] [] mj 0 0 := by
                    refine loop_up P.wd ?_ ?_
                    · intro mj cj hth hJ
                      have hx := CX12 cj hx2
                      have hm := md2 cj hm2
                      refine go_iload (i := 8) rfl dX12_unseen_141 ?_
                      refine go_aload_n (q := 0) (i := 0) rfl rfl dX12_unseen_143 ?_
                      refine go_getR lf12_46 rfl hx.o hx.r23 dX12_unseen_144 ?_
                      refine go_aload_n (q := 0) (i := 0) rfl rfl dX12_unseen_147 ?_
                      refine go_getI lf12_260 rfl hx.o dX12_unseen_148 ?_
                      rw [hm.li]
                      refine go_iald (j := lv) hx.i23 (by omega) (by first | decide | omega) rfl dX12_unseen_151 ?_
                      rw [hm.wd]
                      refine gn_ge (by omega) (by omega) (tgt := 208) dX12_unseen_152 (by decide) (fun h152 => ?_) (fun h152 => by exfalso; omega)
                      refine gn_inc (i := 7) (a := v) (q := 1) rfl dX12_unseen_208 (nle rfl) rfl ?_
                      refine go_goto (tgt := 124) dX12_unseen_211 (by decide) ?_
                      exact ihv _ cj hth (fun c hc l => hJ c (by have := l.1; omega) l) _
                    · intro u hu ihu mj cj hth hJ
                      have hx := CX12 cj hx2
                      have hm := md2 cj hm2
                      refine go_iload (i := 8) rfl dX12_unseen_141 ?_
                      refine go_aload_n (q := 0) (i := 0) rfl rfl dX12_unseen_143 ?_
                      refine go_getR lf12_46 rfl hx.o hx.r23 dX12_unseen_144 ?_
                      refine go_aload_n (q := 0) (i := 0) rfl rfl dX12_unseen_147 ?_
                      refine go_getI lf12_260 rfl hx.o dX12_unseen_148 ?_
                      rw [hm.li]
                      refine go_iald (j := lv) hx.i23 (by omega) (by first | decide | omega) rfl dX12_unseen_151 ?_
                      rw [hm.wd]
                      refine gn_ge (by omega) (by omega) (tgt := 208) dX12_unseen_152 (by decide) (fun h152 => by exfalso; omega) (fun h152 => ?_)
                      refine go_aload_n (q := 0) (i := 0) rfl rfl dX12_unseen_155 ?_
                      refine go_getR lf12_155 rfl hx.o hx.r66 dX12_unseen_156 ?_
                      refine go_bipush (v := nI 8) (by decide) dX12_unseen_159 ?_
                      refine go_iload (i := 7) rfl dX12_unseen_161 ?_
                      refine gn_mul dX12_unseen_163 ?_
                      refine go_iload (i := 8) rfl dX12_unseen_164 ?_
                      refine gn_add dX12_unseen_166 ?_
                      refine go_aload_n (q := 0) (i := 0) rfl rfl dX12_unseen_167 ?_
                      refine go_getR lf12_143 rfl hx.o hx.r59 dX12_unseen_168 ?_
                      refine go_bipush (v := nI 8) (by decide) dX12_unseen_171 ?_
                      refine go_iload (i := 7) rfl dX12_unseen_173 ?_
                      refine gn_mul dX12_unseen_175 ?_
                      refine go_iload (i := 8) rfl dX12_unseen_176 ?_
                      refine gn_add dX12_unseen_178 ?_
                      refine go_iald (j := ((8 * v) + u)) hx.i59 (by omega) (by first | decide | omega) rfl dX12_unseen_179 ?_
                      refine go_iload (i := 5) rfl dX12_unseen_180 ?_
                      refine go_icmp_lt (tgt := 200) dX12_unseen_182 (by decide) (fun h182 => ?_) (fun h182 => ?_)
                      · skip
                        refine go_iconst (v := nI 0) (by decide) dX12_unseen_200 ?_
                        refine go_zast (j := ((8 * v) + u)) hx.i66 (by omega) (by first | decide | omega) rfl (by decide) dX12_unseen_201 ?_
                        refine gn_inc (i := 8) (a := u) (q := 1) rfl dX12_unseen_202 (nle rfl) rfl ?_
                        refine go_goto (tgt := 141) dX12_unseen_205 (by decide) ?_
                        exact ihu _ (cj.tr (Ch.I rfl)) (hth.up (by decide)) (by rw [gI_s]; exact tr_up (n := 8 * v + u) hJ (⟨fun z => absurd nI_0 z, fun z => absurd h182 (Int32.not_lt.mpr (by rw [cj.at (by omega), e2]; exact z.1.2.2))⟩))
                      · skip
                        refine go_aload_n (q := 0) (i := 0) rfl rfl dX12_unseen_185 ?_
                        refine go_iload (i := 8) rfl dX12_unseen_186 ?_
                        refine go_iload (i := 7) rfl dX12_unseen_188 ?_
                        refine go_callV okmX12_isNear lmX12_456 ⟨nle rfl, nle rfl⟩ hx.o ⟨by decide, rfl⟩ (ex_isNear hx hm ok hu hv) npmX12_isNear rfl (nle rfl) ⟨nle rfl, nle rfl⟩ dX12_unseen_190 ?_
                        rintro _ mz ⟨rfl, hz⟩
                        subst mz
                        have hnr : nbr (LT P (gI mj 319)) (8 * v + u) ↔ nbr (unR P (cp 105 (gI m 315) (gI m 316)) (nI t) (8 * b + a) i) (8 * v + u) := nbr_c (fun c => by
                          rw [show gI mj 319 = gI mi 319 from (cj.at (by omega)).trans (cB.1.1.at (by omega))]
                          exact ⟨fun z => (hT c (ld_40 ok z.1) z.1).mp z.2, fun z => ⟨(un_ld (by omega) (ld_ab ok ha hb) _ _ z).2, (hT c (un_ld (by omega) (ld_ab ok ha hb) _ _ z).1 (un_ld (by omega) (ld_ab ok ha hb) _ _ z).2).mpr z⟩⟩)
                        rw [show pit (nbr (LT P (gI mj 319)) (8 * v + u)) (nI 1) (nI 0) = pit (nbr (unR P (cp 105 (gI m 315) (gI m 316)) (nI t) (8 * b + a) i) (8 * v + u)) (nI 1) (nI 0) by rw [propext hnr]]
                        refine go_c1 ?_
                        refine go_if_eq (tgt := 200) dX12_unseen_193 (by decide) (fun h193 => ?_) (fun h193 => ?_)
                        · skip
                          refine go_iconst (v := nI 0) (by decide) dX12_unseen_200 ?_
                          refine go_zast (j := ((8 * v) + u)) hx.i66 (by omega) (by first | decide | omega) rfl (by decide) dX12_unseen_201 ?_
                          refine gn_inc (i := 8) (a := u) (q := 1) rfl dX12_unseen_202 (nle rfl) rfl ?_
                          refine go_goto (tgt := 141) dX12_unseen_205 (by decide) ?_
                          exact ihu _ (cj.tr (Ch.I rfl)) (hth.up (by decide)) (by rw [gI_s]; exact tr_up (n := 8 * v + u) hJ (⟨fun z => absurd nI_0 z, fun z => absurd h193 (by rw [pit_t z.2]; decide)⟩))
                        · skip
                          refine go_iconst (v := nI 1) (by decide) dX12_unseen_196 ?_
                          refine go_goto (tgt := 201) dX12_unseen_197 (by decide) ?_
                          refine go_zast (j := ((8 * v) + u)) hx.i66 (by omega) (by first | decide | omega) rfl (by decide) dX12_unseen_201 ?_
                          refine gn_inc (i := 8) (a := u) (q := 1) rfl dX12_unseen_202 (nle rfl) rfl ?_
                          refine go_goto (tgt := 141) dX12_unseen_205 (by decide) ?_
                          exact ihu _ (cj.tr (Ch.I rfl)) (hth.up (by decide)) (by rw [gI_s]; exact tr_up (n := 8 * v + u) hJ (⟨fun _ => ⟨⟨by omega, ⟨by omega, by omega⟩, by have z := Int32.not_lt.mp h182; rw [cj.at (by omega), e2] at z; exact z⟩, Classical.byContradiction (fun z => h193 (by rw [pit_f z]; exact nI_0))⟩, fun _ => by decide⟩))
                  exact key3 0 (Nat.zero_le _) mj cj hth (fun c hc l => hJ c (by omega) l)
              exact key2 0 (Nat.zero_le _) m2 Ch.rf hth2 (fun c hc l => absurd hc (by omega)) _
            · skip
              refine go_iload (i := 6) rfl dX12_unseen_114 ?_
              refine go_iret rfl ⟨Nat.zero_le _, Nat.zero_le _⟩ dX12_unseen_116 ?_
              refine ⟨?_, c1⟩
              simp only [unS, hca, hca2, hth, i10, reduceIte, cpos (show 8 * b + a < 2 ^ 31 by omega), cpos (show 8 * b2 + a2 < 2 ^ 31 by omega), nI_clamp (show 8 * b + a < 2 ^ 31 by omega), nI_clamp (show 8 * b2 + a2 < 2 ^ 31 by omega)]
              rw [hf, fs_s hi (pit_t ((hT _ (by omega) (ld_ab ok ha2 hb2)).mp h111))]
        refine go_aload_n (q := 0) (i := 0) rfl rfl dX12_unseen_0 ?_
        refine go_iload_n (q := 1) (i := 1) rfl rfl dX12_unseen_1 ?_
        refine go_iload_n (q := 2) (i := 2) rfl rfl dX12_unseen_2 ?_
        refine go_callV okmX12_isCell lmX12_394 ⟨nle rfl, nle rfl⟩ hx.o ⟨by decide, rfl⟩ (ex_isCell hx hm) npmX12_isCell rfl (nle rfl) ⟨nle rfl, nle rfl⟩ dX12_unseen_3 ?_
        rintro _ mz ⟨rfl, hz⟩
        subst mz
        rw [hic]
        refine go_c1 ?_
        refine gz_eq (by omega) (tgt := 27) dX12_unseen_6 (by decide) (fun h6 => by exfalso; omega) (fun h6 => ?_)
        refine go_aload_n (q := 0) (i := 0) rfl rfl dX12_unseen_9 ?_
        refine go_iload_n (q := 3) (i := 3) rfl rfl dX12_unseen_10 ?_
        refine go_iload (i := 4) rfl dX12_unseen_11 ?_
        refine go_callV okmX12_isCell lmX12_394 ⟨nle rfl, nle rfl⟩ hx.o ⟨by decide, rfl⟩ (ex_isCell hx hm) npmX12_isCell rfl (nle rfl) ⟨nle rfl, nle rfl⟩ dX12_unseen_13 ?_
        rintro _ mz ⟨rfl, hz⟩
        subst mz
        rw [hic2]
        refine go_c1 ?_
        refine gz_eq (by omega) (tgt := 27) dX12_unseen_16 (by decide) (fun h16 => by exfalso; omega) (fun h16 => ?_)
        refine go_iload (i := 5) rfl dX12_unseen_19 ?_
        refine go_callS okmX12_isThick lmX12_447 ⟨nle rfl, nle rfl⟩ (ex_isThick) npmX12_isThick rfl (nle rfl) ⟨nle rfl, nle rfl⟩ dX12_unseen_21 ?_
        rintro _ mz ⟨rfl, hz⟩
        subst mz
        rw [hth]
        refine go_c1 ?_
        refine gz_ne (by omega) (tgt := 29) dX12_unseen_24 (by decide) (fun h24 => ?_) (fun h24 => by exfalso; omega)
        refine go_aload_n (q := 0) (i := 0) rfl rfl dX12_unseen_29 ?_
        refine go_callV okmX12_copies lmX12_413 ⟨nle rfl, nle rfl⟩ hx.o ⟨by decide, rfl⟩ (ex_copies hx hm) npmX12_copies rfl (nle rfl) ⟨nle rfl, nle rfl⟩ dX12_unseen_30 ?_
        rintro _ m1 ⟨rfl, c1, e1, s1, l1, -⟩
        have hx := c1.wf hx
        have hm := c1.md hm
        refine go_c0 ?_
        refine go_iconst (v := nI 0) (by decide) dX12_unseen_33 ?_
        refine go_istore (i := 6) dX12_unseen_34 (nle rfl) (nle rfl) ?_
        have key1 : ∀ q, q ≤ 40 → ∀ mk : Me, Ch (fun x => x = 319) m1 mk → (∀ c, c < q → gI mk 319 c = nI 0) → Go mX12_unseen (fun o m' => o = some (.int (unS P (cp 105 (gI m 315) (gI m 316)) (nI a) (nI b) (nI a2) (nI b2) (nI t))) ∧ RfK m m') 36 [some (.ref 274), some (.int (nI a)), some (.int (nI b)), some (.int (nI a2)), some (.int (nI b2)), some (.int (nI t)), some (.int (nI q)), none, none] [] mk 0 0 := by
          refine loop_up 40 ?_ ?_
          · intro mk ck hk
            have hx := CX12 ck hx
            have hm := md1 ck hm
            refine go_iload (i := 6) rfl dX12_unseen_36 ?_
            refine go_bipush (v := nI 40) (by decide) dX12_unseen_38 ?_
            refine gn_ge (by omega) (by omega) (tgt := 57) dX12_unseen_40 (by decide) (fun h40 => ?_) (fun h40 => by exfalso; omega)
            refine go_aload_n (q := 0) (i := 0) rfl rfl dX12_unseen_57 ?_
            refine go_getR lf12_152 rfl hx.o hx.r65 dX12_unseen_58 ?_
            refine go_bipush (v := nI 8) (by decide) dX12_unseen_61 ?_
            refine go_iload_n (q := 2) (i := 2) rfl rfl dX12_unseen_63 ?_
            refine gn_mul dX12_unseen_64 ?_
            refine go_iload_n (q := 1) (i := 1) rfl rfl dX12_unseen_65 ?_
            refine gn_add dX12_unseen_66 ?_
            refine go_aload_n (q := 0) (i := 0) rfl rfl dX12_unseen_67 ?_
            refine go_getR lf12_143 rfl hx.o hx.r59 dX12_unseen_68 ?_
            refine go_bipush (v := nI 8) (by decide) dX12_unseen_71 ?_
            refine go_iload_n (q := 2) (i := 2) rfl rfl dX12_unseen_73 ?_
            refine gn_mul dX12_unseen_74 ?_
            refine go_iload_n (q := 1) (i := 1) rfl rfl dX12_unseen_75 ?_
            refine gn_add dX12_unseen_76 ?_
            refine go_iald (j := ((8 * b) + a)) hx.i59 (by omega) (by first | decide | omega) rfl dX12_unseen_77 ?_
            rw [ck.at (show ¬ _ by omega), e1]
            refine go_iload (i := 5) rfl dX12_unseen_78 ?_
            refine go_icmp_lt (tgt := 87) dX12_unseen_80 (by decide) (fun h80 => ?_) (fun h80 => ?_)
            · skip
              refine go_iconst (v := nI 0) (by decide) dX12_unseen_87 ?_
              refine go_zast (j := ((8 * b) + a)) hx.i65 (by omega) (by first | decide | omega) rfl (by decide) dX12_unseen_88 ?_
              refine go_iconst (v := nI 0) (by decide) dX12_unseen_89 ?_
              refine go_istore (i := 6) dX12_unseen_90 (nle rfl) (nle rfl) ?_
              refine key 0 (Nat.zero_le _) _ ((RfK.of c1).tr (RfK.c2 ((ck.tr (Ch.I rfl)).mn (fun x hx => by omega)) (fun z => z.of ((ck.tr (Ch.I rfl)).at (by omega)) (by rw [(ck.tr (Ch.I rfl)).at (x := 274) (by omega)]) ((ck.tr (Ch.I rfl)).at (by omega))))) ?_ ?_ ?_ (fun c hc l => ?_) rfl _ _
              · rw [gI_n (by decide), ck.at (by omega), e1]; rfl
              · rw [gI_n (by decide), ck.at (by omega)]; exact s1
              · rw [gI_n (by decide), ck.at (by omega)]; exact l1
              · rw [gI_s]
                by_cases e : c = 8 * b + a
                · rw [e, upd_eq]
                  exact ⟨fun z => absurd nI_0 z, fun z => absurd h80 (Int32.not_lt.mpr z.2)⟩
                · rw [upd_ne e, hk c hc]
                  exact ⟨fun z => absurd nI_0 z, fun z => absurd z.1 e⟩
            · skip
              refine go_iconst (v := nI 1) (by decide) dX12_unseen_83 ?_
              refine go_goto (tgt := 88) dX12_unseen_84 (by decide) ?_
              refine go_zast (j := ((8 * b) + a)) hx.i65 (by omega) (by first | decide | omega) rfl (by decide) dX12_unseen_88 ?_
              refine go_iconst (v := nI 0) (by decide) dX12_unseen_89 ?_
              refine go_istore (i := 6) dX12_unseen_90 (nle rfl) (nle rfl) ?_
              refine key 0 (Nat.zero_le _) _ ((RfK.of c1).tr (RfK.c2 ((ck.tr (Ch.I rfl)).mn (fun x hx => by omega)) (fun z => z.of ((ck.tr (Ch.I rfl)).at (by omega)) (by rw [(ck.tr (Ch.I rfl)).at (x := 274) (by omega)]) ((ck.tr (Ch.I rfl)).at (by omega))))) ?_ ?_ ?_ (fun c hc l => ?_) rfl _ _
              · rw [gI_n (by decide), ck.at (by omega), e1]; rfl
              · rw [gI_n (by decide), ck.at (by omega)]; exact s1
              · rw [gI_n (by decide), ck.at (by omega)]; exact l1
              · rw [gI_s]
                by_cases e : c = 8 * b + a
                · rw [e, upd_eq]
                  exact ⟨fun _ => ⟨rfl, Int32.not_lt.mp h80⟩, fun _ => by decide⟩
                · rw [upd_ne e, hk c hc]
                  exact ⟨fun z => absurd nI_0 z, fun z => absurd z.1 e⟩
          · intro q hq ihq mk ck hk
            have hx := CX12 ck hx
            have hm := md1 ck hm
            refine go_iload (i := 6) rfl dX12_unseen_36 ?_
            refine go_bipush (v := nI 40) (by decide) dX12_unseen_38 ?_
            refine gn_ge (by omega) (by omega) (tgt := 57) dX12_unseen_40 (by decide) (fun h40 => by exfalso; omega) (fun h40 => ?_)
            refine go_aload_n (q := 0) (i := 0) rfl rfl dX12_unseen_43 ?_
            refine go_getR lf12_152 rfl hx.o hx.r65 dX12_unseen_44 ?_
            refine go_iload (i := 6) rfl dX12_unseen_47 ?_
            refine go_iconst (v := nI 0) (by decide) dX12_unseen_49 ?_
            refine go_zast (j := q) hx.i65 (by omega) (by first | decide | omega) rfl (by decide) dX12_unseen_50 ?_
            refine gn_inc (i := 6) (a := q) (q := 1) rfl dX12_unseen_51 (nle rfl) rfl ?_
            refine go_goto (tgt := 36) dX12_unseen_54 (by decide) ?_
            exact ihq _ (ck.tr (Ch.I rfl)) (by rw [gI_s]; exact fl_up hk)
        exact key1 0 (Nat.zero_le _) m1 Ch.rf (fun c hc => absurd hc (Nat.not_lt_zero c))
