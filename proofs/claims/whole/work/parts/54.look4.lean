/-- a use is served: none of its holding's land is thinner -/
def alB (P : Pl) (r : Nat → Int32) (h th : Int32) : Prop := ∀ c, c < 40 → ld P c → r (40 + c) = h → th ≤ r c
noncomputable def pit {α : Type} (p : Prop) (a b : α) : α := @ite _ p (Classical.propDecidable p) a b
theorem pit_t {α : Type} {p : Prop} {a b : α} (h : p) : pit p a b = a := if_pos h
theorem pit_f {α : Type} {p : Prop} {a b : α} (h : ¬ p) : pit p a b = b := if_neg h
noncomputable def hvS (P : Pl) (r : Nat → Int32) (h th : Int32) : Int32 := pit (alB P r h th) (if 0 < ctY (fun c => r (40 + c)) h P.wd P.rw then nI 1 else nI 0) (nI 0)
noncomputable def svS (P : Pl) (r : Nat → Int32) (i : Nat) : Int32 := if ihS (P.uf i) (P.ut i) (r 104) = nI 0 then nI 1 else hvS P r (P.uo i) (P.uk i)
theorem hv01 (P : Pl) (r : Nat → Int32) (h th : Int32) : hvS P r h th = nI 0 ∨ hvS P r h th = nI 1 := by
  unfold hvS
  by_cases q : alB P r h th
  · rw [pit_t q]
    split
    · exact Or.inr rfl
    · exact Or.inl rfl
  · rw [pit_f q]; exact Or.inl rfl
theorem sv01 (P : Pl) (r : Nat → Int32) (i : Nat) : svS P r i = nI 0 ∨ svS P r i = nI 1 := by
  unfold svS
  split
  · exact Or.inr rfl
  · exact hv01 P r _ _
theorem hbB_iff {f w : Nat → Int32} {h th : Int32} : ∀ n, hbB f w h th n = true ↔ ∀ c, c < n → w c = h → th ≤ f c
  | 0 => ⟨fun _ c hc => absurd hc (Nat.not_lt_zero c), fun _ => rfl⟩
  | n + 1 => by
    rw [hbB, Bool.and_eq_true, hbB_iff n, Bool.or_eq_true, decide_eq_true_iff, decide_eq_true_iff]
    constructor
    · rintro ⟨h1, h2⟩ c hc e
      by_cases q : c < n
      · exact h1 c q e
      · rw [show c = n by omega] at e ⊢
        exact h2.resolve_left (fun z => z e)
    · intro h1
      refine ⟨fun c hc e => h1 c (by omega) e, ?_⟩
      by_cases q : w n = h
      · exact Or.inr (h1 n (by omega) q)
      · exact Or.inl q
theorem hd_eq {P : Pl} (ok : PlOk P) {f w r : Nat → Int32} {h th : Int32} (h1 : ∀ c, c < 40 → f c = r c) (h2 : ∀ c, c < 40 → ld P c → w c = r (40 + c)) (h3 : ∀ c, c < 40 → ¬ ld P c → w c ≠ h) : hdS f w h th = hvS P r h th := by
  unfold hdS hvS
  rw [ct_eq ok (w := fun c => r (40 + c)) h2 h3]
  have e : (hbB f w h th 40 = true) = alB P r h th := by
    rw [hbB_iff]
    apply propext
    constructor
    · intro q c hc l e
      rw [← h1 c hc]; exact q c hc (by rw [h2 c hc l]; exact e)
    · intro q c hc e
      by_cases l : ld P c
      · rw [h1 c hc]; exact q c hc l (by rw [← h2 c hc l]; exact e)
      · exact absurd e (h3 c hc l)
  by_cases q : hbB f w h th 40 = true
  · rw [if_pos q, pit_t (e ▸ q)]
  · rw [if_neg q, pit_f (fun z => q (e.symm ▸ z))]
theorem in_1 {i n : Nat} (h : i < n) (hn : n < 2 ^ 20) : inS (nI i) (nI 0) (nI n - nI 1) = nI 1 := by
  rcases hd_c hn (nI i) with q | ⟨j, -, -, q⟩
  · exfalso
    unfold inS at q
    rw [if_neg (by rw [nI_ltI (by omega) (by omega)]; omega), if_neg] at q
    · exact absurd q (by decide)
    · rw [Int32.lt_iff_toInt_lt, pk_sub_toInt (by omega) (by omega), nI_toInt (by omega)]; omega
  · exact q
theorem PlOk.uo {P : Pl} (ok : PlOk P) : ∀ u, u < P.us → ∃ h, h < P.hd ∧ P.uo u = nI h := ok.2.2.2.2.2.2.2.2.2.2.1
theorem is_1 {v : Int32} (h : v = nI 0 ∨ v = nI 1) (q : ¬ v = nI 0) : v = nI 1 := h.resolve_left q
set_option maxRecDepth 100000 in
set_option maxHeartbeats 4000000 in
theorem ev_isServed {m : Me} {pl dr : Nat} {P : Pl} {r : Nat → Int32} {g i : Nat} (hX : CX m.1 (gR m) pl dr) (hP : PlC m pl P) (ok : PlOk P) (hg : Wf1 m.1 (gR m) g) (hi : i < P.us) (hc : CR P (gw m g) r) : Ev mX11_isServed [.ref 0, .ref g, .int (nI i)] m (fun o m' => o = some (.int (svS P r i)) ∧ m' = m) := by
  have hu6 := ok.2.2.2.1
  have hh4 := ok.2.2.1
  have hpd := hX.pd
  have hu2 : hasS (gI m pl 3) (nI 6) (nI i) = nI 1 := by rw [hP.us, has_in ok.2.2.2.1 (by decide), in_1 hi (by omega)]
  obtain ⟨q, hq4, e0⟩ : ∃ q, q < P.hd ∧ P.uo i = nI q := PlOk.uo ok i hi
  refine ⟨plmX11_isServed, nle rfl, ?_⟩
  refine go_aload_n (q := 0) (i := 0) rfl rfl dX11_isServed_0 ?_
  refine go_getR lf11_86 rfl hX.o hX.rp dX11_isServed_1 ?_
  refine go_iload_n (q := 2) (i := 2) rfl rfl dX11_isServed_4 ?_
  refine go_callV okmX7_hasUse lmX11_175 ⟨nle rfl, nle rfl⟩ hX.wp.o ⟨by decide, rfl⟩ (ev_hasUse hX.wp) npmX7_hasUse rfl (nle rfl) ⟨nle rfl, nle rfl⟩ dX11_isServed_5 ?_
  rintro _ mz ⟨rfl, hz⟩
  subst mz
  rw [hP.us, has_in ok.2.2.2.1 (by decide), in_1 hi (by omega)]
  refine go_c1 ?_
  refine gz_ne (by omega) (tgt := 13) dX11_isServed_8 (by decide) (fun h8 => ?_) (fun h8 => by exfalso; omega)
  refine go_aload_n (q := 0) (i := 0) rfl rfl dX11_isServed_13 ?_
  refine go_getR lf11_86 rfl hX.o hX.rp dX11_isServed_14 ?_
  refine go_iload_n (q := 2) (i := 2) rfl rfl dX11_isServed_17 ?_
  refine go_aload_n (q := 1) (i := 1) rfl rfl dX11_isServed_18 ?_
  refine go_getI lf11_137 rfl hg.o dX11_isServed_19 ?_
  refine go_callV okmX7_isHourOf lmX11_190 ⟨nle rfl, nle rfl⟩ hX.wp.o ⟨by decide, rfl⟩ (ev_isHourOf hX.wp (by omega) hu2) npmX7_isHourOf rfl (nle rfl) ⟨nle rfl, nle rfl⟩ dX11_isServed_22 ?_
  rintro _ mz ⟨rfl, hz⟩
  subst mz
  rw [(hP.uu i hi).2.1, (hP.uu i hi).2.2.1, show gI m g 0 = r 104 from gw_h.trans (hc.s (by omega) (by omega))]
  refine go_c1 ?_
  refine go_if_eq (tgt := 53) dX11_isServed_25 (by decide) (fun h25 => ?_) (fun h25 => ?_)
  · skip
    refine go_iconst (v := nI 1) (by decide) dX11_isServed_53 ?_
    refine go_goto (tgt := 58) dX11_isServed_54 (by decide) ?_
    refine go_zret rfl (by decide) ⟨Nat.zero_le _, Nat.zero_le _⟩ dX11_isServed_58 ?_
    refine ⟨?_, rfl⟩
    rw [show svS P r i = nI 1 from if_pos (h25.trans nI_0.symm)]
  · skip
    refine go_aload_n (q := 1) (i := 1) rfl rfl dX11_isServed_28 ?_
    refine go_aload_n (q := 0) (i := 0) rfl rfl dX11_isServed_29 ?_
    refine go_getR lf11_86 rfl hX.o hX.rp dX11_isServed_30 ?_
    refine go_getR lf11_178 rfl hX.wp.o hX.wp.r12 dX11_isServed_33 ?_
    refine go_iload_n (q := 2) (i := 2) rfl rfl dX11_isServed_36 ?_
    refine go_iald (j := i) hX.wp.i12 (by omega) (by first | decide | omega) rfl dX11_isServed_37 ?_
    rw [(hP.uu i hi).1]
    refine go_aload_n (q := 0) (i := 0) rfl rfl dX11_isServed_38 ?_
    refine go_getR lf11_86 rfl hX.o hX.rp dX11_isServed_39 ?_
    refine go_getR lf11_187 rfl hX.wp.o hX.wp.r15 dX11_isServed_42 ?_
    refine go_iload_n (q := 2) (i := 2) rfl rfl dX11_isServed_45 ?_
    refine go_iald (j := i) hX.wp.i15 (by omega) (by first | decide | omega) rfl dX11_isServed_46 ?_
    rw [(hP.uu i hi).2.2.2]
    refine go_callV okmX1_isHidden lmX11_325 ⟨nle rfl, nle rfl⟩ hg.o ⟨by decide, rfl⟩ (ev_isHidden hg) npmX1_isHidden rfl (nle rfl) ⟨nle rfl, nle rfl⟩ dX11_isServed_47 ?_
    rintro _ mz ⟨rfl, hz⟩
    subst mz
    rw [hd_eq (r := r) ok (fun c hq => (gw_f hq).trans (hc.f hq)) (fun c hq l => (gw_w hq).trans (hc.w hq l)) (fun c hq l => by rw [show gI m (g + 2) c = _ from (gw_w hq).trans (hc.o hq l), e0]; exact i1m q (by omega))]
    refine go_c1 ?_
    refine go_if_eq (tgt := 57) dX11_isServed_50 (by decide) (fun h50 => ?_) (fun h50 => ?_)
    · skip
      refine go_iconst (v := nI 0) (by decide) dX11_isServed_57 ?_
      refine go_zret rfl (by decide) ⟨Nat.zero_le _, Nat.zero_le _⟩ dX11_isServed_58 ?_
      refine ⟨?_, rfl⟩
      rw [show svS P r i = nI 0 from (if_neg (fun z => h25 (z.trans nI_0))).trans (h50.trans nI_0.symm)]
    · skip
      refine go_iconst (v := nI 1) (by decide) dX11_isServed_53 ?_
      refine go_goto (tgt := 58) dX11_isServed_54 (by decide) ?_
      refine go_zret rfl (by decide) ⟨Nat.zero_le _, Nat.zero_le _⟩ dX11_isServed_58 ?_
      refine ⟨?_, rfl⟩
      rw [show svS P r i = nI 1 from (if_neg (fun z => h25 (z.trans nI_0))).trans (is_1 (hv01 _ _ _ _) (fun z => h50 (z.trans nI_0)))]
set_option maxRecDepth 100000 in
set_option maxHeartbeats 4000000 in
theorem ex_isItsHour {m : Me} {P : Pl} {lv i : Nat} {h : Int32} (hx : Wf12 m.1 (gR m)) (hm : MdC m P lv) (ok : PlOk P) (hi : i < P.us) : Ev mX12_isItsHour [.ref 274, .int (nI i), .int h] m (fun o m' => o = some (.int (ihS (P.uf i) (P.ut i) h)) ∧ m' = m) := by
  have hu6 := ok.2.2.2.1
  have hlv := hm.lv
  refine ⟨plmX12_isItsHour, nle rfl, ?_⟩
  refine go_iload_n (q := 2) (i := 2) rfl rfl dX12_isItsHour_0 ?_
  refine go_bipush (v := nI 24) (by decide) dX12_isItsHour_1 ?_
  refine go_irem (by decide) dX12_isItsHour_3 ?_
  refine go_aload_n (q := 0) (i := 0) rfl rfl dX12_isItsHour_4 ?_
  refine go_getR lf12_73 rfl hx.o hx.r32 dX12_isItsHour_5 ?_
  refine go_bipush (v := nI 6) (by decide) dX12_isItsHour_8 ?_
  refine go_aload_n (q := 0) (i := 0) rfl rfl dX12_isItsHour_10 ?_
  refine go_getI lf12_260 rfl hx.o dX12_isItsHour_11 ?_
  rw [hm.li]
  refine gn_mul dX12_isItsHour_14 ?_
  refine go_iload_n (q := 1) (i := 1) rfl rfl dX12_isItsHour_15 ?_
  refine gn_add dX12_isItsHour_16 ?_
  refine go_iald (j := ((6 * lv) + i)) hx.i32 (by omega) (by first | decide | omega) rfl dX12_isItsHour_17 ?_
  rw [(hm.uu i hi).2.1]
  refine go_aload_n (q := 0) (i := 0) rfl rfl dX12_isItsHour_18 ?_
  refine go_getR lf12_76 rfl hx.o hx.r33 dX12_isItsHour_19 ?_
  refine go_bipush (v := nI 6) (by decide) dX12_isItsHour_22 ?_
  refine go_aload_n (q := 0) (i := 0) rfl rfl dX12_isItsHour_24 ?_
  refine go_getI lf12_260 rfl hx.o dX12_isItsHour_25 ?_
  rw [hm.li]
  refine gn_mul dX12_isItsHour_28 ?_
  refine go_iload_n (q := 1) (i := 1) rfl rfl dX12_isItsHour_29 ?_
  refine gn_add dX12_isItsHour_30 ?_
  refine go_iald (j := ((6 * lv) + i)) hx.i33 (by omega) (by first | decide | omega) rfl dX12_isItsHour_31 ?_
  rw [(hm.uu i hi).2.2.1]
  refine go_callS okmX12_in lmX12_361 ⟨nle rfl, nle rfl⟩ (ex_in) npmX12_in rfl (nle rfl) ⟨nle rfl, nle rfl⟩ dX12_isItsHour_32 ?_
  rintro _ mz ⟨rfl, hz⟩
  subst mz
  refine go_c1 ?_
  refine go_zret rfl (inS_z _ _ _) ⟨Nat.zero_le _, Nat.zero_le _⟩ dX12_isItsHour_35 ?_
  exact ⟨rfl, rfl⟩
set_option maxRecDepth 100000 in
set_option maxHeartbeats 4000000 in
theorem ex_isServed {m : Me} {P : Pl} {lv : Nat} (hx : Wf12 m.1 (gR m)) (hm : MdC m P lv) (ok : PlOk P) {i : Nat} (hiu : i < P.us) : Ev mX12_isServed [.ref 274, .int (nI i)] m (fun o m' => o = some (.int (svS P (gI m 316) i)) ∧ m' = m) := by
  refine ⟨plmX12_isServed, nle rfl, ?_⟩
  have hlv := hm.lv
  have hw8 := ok.1
  have hr5 := ok.2.1
  have hu6 := ok.2.2.2.1
  by_cases hq12 : ihS (P.uf i) (P.ut i) (gI m 316 104) = nI 0
  · skip
    refine go_aload_n (q := 0) (i := 0) rfl rfl dX12_isServed_0 ?_
    refine go_iload_n (q := 1) (i := 1) rfl rfl dX12_isServed_1 ?_
    refine go_aload_n (q := 0) (i := 0) rfl rfl dX12_isServed_2 ?_
    refine go_getR lf12_143 rfl hx.o hx.r59 dX12_isServed_3 ?_
    refine go_bipush (v := nI 104) (by decide) dX12_isServed_6 ?_
    refine go_iald (j := 104) hx.i59 (by omega) (by first | decide | omega) rfl dX12_isServed_8 ?_
    refine go_callV okmX12_isItsHour lmX12_432 ⟨nle rfl, nle rfl⟩ hx.o ⟨by decide, rfl⟩ (ex_isItsHour hx hm ok hiu) npmX12_isItsHour rfl (nle rfl) ⟨nle rfl, nle rfl⟩ dX12_isServed_9 ?_
    rintro _ mz ⟨rfl, hz⟩
    subst mz
    rw [hq12]
    refine go_c1 ?_
    refine gz_ne (by omega) (tgt := 17) dX12_isServed_12 (by decide) (fun h12 => by exfalso; omega) (fun h12 => ?_)
    refine go_iconst (v := nI 1) (by decide) dX12_isServed_15 ?_
    refine go_zret rfl (by decide) ⟨Nat.zero_le _, Nat.zero_le _⟩ dX12_isServed_16 ?_
    refine ⟨?_, rfl⟩
    rw [show svS P (gI m 316) i = nI 1 from if_pos hq12]
  · have key : ∀ y, y ≤ P.rw → ∀ (x4 : Option Value), (∀ c, ld P c → c < 8 * y → gI m 316 (40 + c) = P.uo i → P.uk i ≤ gI m 316 c) → Go mX12_isServed (fun o m' => o = some (.int (svS P (gI m 316) i)) ∧ m' = m) 34 [some (.ref 274), some (.int (nI i)), some (.int (P.uo i)), some (.int (nI y)), x4] [] m 0 0 := by
      refine loop_up P.rw ?_ ?_
      · intro x4 hI
        refine go_iload_n (q := 3) (i := 3) rfl rfl dX12_isServed_34 ?_
        refine go_aload_n (q := 0) (i := 0) rfl rfl dX12_isServed_35 ?_
        refine go_getR lf12_49 rfl hx.o hx.r24 dX12_isServed_36 ?_
        refine go_aload_n (q := 0) (i := 0) rfl rfl dX12_isServed_39 ?_
        refine go_getI lf12_260 rfl hx.o dX12_isServed_40 ?_
        rw [hm.li]
        refine go_iald (j := lv) hx.i24 (by omega) (by first | decide | omega) rfl dX12_isServed_43 ?_
        rw [hm.rw]
        refine gn_ge (by omega) (by omega) (tgt := 126) dX12_isServed_44 (by decide) (fun h44 => ?_) (fun h44 => by exfalso; omega)
        refine go_aload_n (q := 0) (i := 0) rfl rfl dX12_isServed_126 ?_
        refine go_iload_n (q := 2) (i := 2) rfl rfl dX12_isServed_127 ?_
        refine go_callV okmX12_cellsOf lmX12_420 ⟨nle rfl, nle rfl⟩ hx.o ⟨by decide, rfl⟩ (ex_cellsOf hx hm ok) npmX12_cellsOf rfl (nle rfl) ⟨nle rfl, nle rfl⟩ dX12_isServed_128 ?_
        rintro _ mz ⟨rfl, hz⟩
        subst mz
        have hal : alB P (gI m 316) (P.uo i) (P.uk i) := fun c hc l e => hI c l (by have := l.2; omega) e
        have hct : ctY (fun c => gI m 316 (40 + c)) (P.uo i) P.wd P.rw < 2 ^ 20 := Nat.lt_of_le_of_lt (Nat.le_trans (ctY_le _ _ _ _) (Nat.mul_le_mul hr5 hw8)) (show 5 * 8 < 2 ^ 20 by decide)
        refine go_c1 ?_
        refine gz_le (by omega) (tgt := 138) dX12_isServed_131 (by decide) (fun h131 => ?_) (fun h131 => ?_)
        · skip
          refine go_iconst (v := nI 0) (by decide) dX12_isServed_138 ?_
          refine go_zret rfl (by decide) ⟨Nat.zero_le _, Nat.zero_le _⟩ dX12_isServed_139 ?_
          refine ⟨?_, rfl⟩
          unfold svS hvS
          rw [if_neg hq12, pit_t hal]
          rw [if_neg (by omega)]
        · skip
          refine go_iconst (v := nI 1) (by decide) dX12_isServed_134 ?_
          refine go_goto (tgt := 139) dX12_isServed_135 (by decide) ?_
          refine go_zret rfl (by decide) ⟨Nat.zero_le _, Nat.zero_le _⟩ dX12_isServed_139 ?_
          refine ⟨?_, rfl⟩
          unfold svS hvS
          rw [if_neg hq12, pit_t hal]
          rw [if_pos (by omega)]
      · intro y hi ih x4 hI
        have key2 : ∀ x, x ≤ P.wd → (∀ c, ld P c → c < 8 * y + x → gI m 316 (40 + c) = P.uo i → P.uk i ≤ gI m 316 c) → Go mX12_isServed (fun o m' => o = some (.int (svS P (gI m 316) i)) ∧ m' = m) 50 [some (.ref 274), some (.int (nI i)), some (.int (P.uo i)), some (.int (nI y)), some (.int (nI x))] [] m 0 0 := by
          refine loop_up P.wd ?_ ?_
          · intro hJ
            refine go_iload (i := 4) rfl dX12_isServed_50 ?_
            refine go_aload_n (q := 0) (i := 0) rfl rfl dX12_isServed_52 ?_
            refine go_getR lf12_46 rfl hx.o hx.r23 dX12_isServed_53 ?_
            refine go_aload_n (q := 0) (i := 0) rfl rfl dX12_isServed_56 ?_
            refine go_getI lf12_260 rfl hx.o dX12_isServed_57 ?_
            rw [hm.li]
            refine go_iald (j := lv) hx.i23 (by omega) (by first | decide | omega) rfl dX12_isServed_60 ?_
            rw [hm.wd]
            refine gn_ge (by omega) (by omega) (tgt := 120) dX12_isServed_61 (by decide) (fun h61 => ?_) (fun h61 => by exfalso; omega)
            refine gn_inc (i := 3) (a := y) (q := 1) rfl dX12_isServed_120 (nle rfl) rfl ?_
            refine go_goto (tgt := 34) dX12_isServed_123 (by decide) ?_
            exact ih _ (fun c l q e => hJ c l (by have := l.1; omega) e)
          · intro x hj ih2 hJ
            refine go_iload (i := 4) rfl dX12_isServed_50 ?_
            refine go_aload_n (q := 0) (i := 0) rfl rfl dX12_isServed_52 ?_
            refine go_getR lf12_46 rfl hx.o hx.r23 dX12_isServed_53 ?_
            refine go_aload_n (q := 0) (i := 0) rfl rfl dX12_isServed_56 ?_
            refine go_getI lf12_260 rfl hx.o dX12_isServed_57 ?_
            rw [hm.li]
            refine go_iald (j := lv) hx.i23 (by omega) (by first | decide | omega) rfl dX12_isServed_60 ?_
            rw [hm.wd]
            refine gn_ge (by omega) (by omega) (tgt := 120) dX12_isServed_61 (by decide) (fun h61 => by exfalso; omega) (fun h61 => ?_)
            refine go_aload_n (q := 0) (i := 0) rfl rfl dX12_isServed_64 ?_
            refine go_getR lf12_143 rfl hx.o hx.r59 dX12_isServed_65 ?_
            refine go_bipush (v := nI 40) (by decide) dX12_isServed_68 ?_
            refine go_bipush (v := nI 8) (by decide) dX12_isServed_70 ?_
            refine go_iload_n (q := 3) (i := 3) rfl rfl dX12_isServed_72 ?_
            refine gn_mul dX12_isServed_73 ?_
            refine gn_add dX12_isServed_74 ?_
            refine go_iload (i := 4) rfl dX12_isServed_75 ?_
            refine gn_add dX12_isServed_77 ?_
            refine go_iald (j := ((40 + (8 * y)) + x)) hx.i59 (by omega) (by first | decide | omega) rfl dX12_isServed_78 ?_
            rw [show 40 + 8 * y + x = 40 + (8 * y + x) by omega]
            refine go_iload_n (q := 2) (i := 2) rfl rfl dX12_isServed_79 ?_
            refine go_icmp_ne (tgt := 114) dX12_isServed_80 (by decide) (fun h80 => ?_) (fun h80 => ?_)
            · skip
              refine gn_inc (i := 4) (a := x) (q := 1) rfl dX12_isServed_114 (nle rfl) rfl ?_
              refine go_goto (tgt := 50) dX12_isServed_117 (by decide) ?_
              refine ih2 (fun c l q e => ?_)
              by_cases z : c < 8 * y + x
              · exact hJ c l z e
              · rw [show c = 8 * y + x by omega] at e ⊢
                exact absurd e h80
            · skip
              refine go_aload_n (q := 0) (i := 0) rfl rfl dX12_isServed_83 ?_
              refine go_getR lf12_143 rfl hx.o hx.r59 dX12_isServed_84 ?_
              refine go_bipush (v := nI 8) (by decide) dX12_isServed_87 ?_
              refine go_iload_n (q := 3) (i := 3) rfl rfl dX12_isServed_89 ?_
              refine gn_mul dX12_isServed_90 ?_
              refine go_iload (i := 4) rfl dX12_isServed_91 ?_
              refine gn_add dX12_isServed_93 ?_
              refine go_iald (j := ((8 * y) + x)) hx.i59 (by omega) (by first | decide | omega) rfl dX12_isServed_94 ?_
              refine go_aload_n (q := 0) (i := 0) rfl rfl dX12_isServed_95 ?_
              refine go_getR lf12_79 rfl hx.o hx.r34 dX12_isServed_96 ?_
              refine go_bipush (v := nI 6) (by decide) dX12_isServed_99 ?_
              refine go_aload_n (q := 0) (i := 0) rfl rfl dX12_isServed_101 ?_
              refine go_getI lf12_260 rfl hx.o dX12_isServed_102 ?_
              rw [hm.li]
              refine gn_mul dX12_isServed_105 ?_
              refine go_iload_n (q := 1) (i := 1) rfl rfl dX12_isServed_106 ?_
              refine gn_add dX12_isServed_107 ?_
              refine go_iald (j := ((6 * lv) + i)) hx.i34 (by omega) (by first | decide | omega) rfl dX12_isServed_108 ?_
              rw [(hm.uu i hiu).2.2.2]
              refine go_icmp_ge (tgt := 114) dX12_isServed_109 (by decide) (fun h109 => ?_) (fun h109 => ?_)
              · skip
                refine gn_inc (i := 4) (a := x) (q := 1) rfl dX12_isServed_114 (nle rfl) rfl ?_
                refine go_goto (tgt := 50) dX12_isServed_117 (by decide) ?_
                refine ih2 (fun c l q e => ?_)
                by_cases z : c < 8 * y + x
                · exact hJ c l z e
                · rw [show c = 8 * y + x by omega] at e ⊢
                  exact h109
              · skip
                refine go_iconst (v := nI 0) (by decide) dX12_isServed_112 ?_
                refine go_zret rfl (by decide) ⟨Nat.zero_le _, Nat.zero_le _⟩ dX12_isServed_113 ?_
                refine ⟨?_, rfl⟩
                unfold svS hvS
                rw [if_neg hq12, pit_f (fun al => absurd (al (8 * y + x) (by omega) ⟨by omega, by omega⟩ h80) h109)]
        refine go_iload_n (q := 3) (i := 3) rfl rfl dX12_isServed_34 ?_
        refine go_aload_n (q := 0) (i := 0) rfl rfl dX12_isServed_35 ?_
        refine go_getR lf12_49 rfl hx.o hx.r24 dX12_isServed_36 ?_
        refine go_aload_n (q := 0) (i := 0) rfl rfl dX12_isServed_39 ?_
        refine go_getI lf12_260 rfl hx.o dX12_isServed_40 ?_
        rw [hm.li]
        refine go_iald (j := lv) hx.i24 (by omega) (by first | decide | omega) rfl dX12_isServed_43 ?_
        rw [hm.rw]
        refine gn_ge (by omega) (by omega) (tgt := 126) dX12_isServed_44 (by decide) (fun h44 => by exfalso; omega) (fun h44 => ?_)
        refine go_iconst (v := nI 0) (by decide) dX12_isServed_47 ?_
        refine go_istore (i := 4) dX12_isServed_48 (nle rfl) (nle rfl) ?_
        exact key2 0 (Nat.zero_le _) (fun c l q e => hI c l (by omega) e)
    refine go_aload_n (q := 0) (i := 0) rfl rfl dX12_isServed_0 ?_
    refine go_iload_n (q := 1) (i := 1) rfl rfl dX12_isServed_1 ?_
    refine go_aload_n (q := 0) (i := 0) rfl rfl dX12_isServed_2 ?_
    refine go_getR lf12_143 rfl hx.o hx.r59 dX12_isServed_3 ?_
    refine go_bipush (v := nI 104) (by decide) dX12_isServed_6 ?_
    refine go_iald (j := 104) hx.i59 (by omega) (by first | decide | omega) rfl dX12_isServed_8 ?_
    refine go_callV okmX12_isItsHour lmX12_432 ⟨nle rfl, nle rfl⟩ hx.o ⟨by decide, rfl⟩ (ex_isItsHour hx hm ok hiu) npmX12_isItsHour rfl (nle rfl) ⟨nle rfl, nle rfl⟩ dX12_isServed_9 ?_
    rintro _ mz ⟨rfl, hz⟩
    subst mz
    refine go_c1 ?_
    refine go_if_ne (tgt := 17) dX12_isServed_12 (by decide) (fun h12 => ?_) (fun h12 => absurd h12 ((fun z => hq12 (z.trans nI_0.symm))))
    refine go_aload_n (q := 0) (i := 0) rfl rfl dX12_isServed_17 ?_
    refine go_getR lf12_70 rfl hx.o hx.r31 dX12_isServed_18 ?_
    refine go_bipush (v := nI 6) (by decide) dX12_isServed_21 ?_
    refine go_aload_n (q := 0) (i := 0) rfl rfl dX12_isServed_23 ?_
    refine go_getI lf12_260 rfl hx.o dX12_isServed_24 ?_
    rw [hm.li]
    refine gn_mul dX12_isServed_27 ?_
    refine go_iload_n (q := 1) (i := 1) rfl rfl dX12_isServed_28 ?_
    refine gn_add dX12_isServed_29 ?_
    refine go_iald (j := ((6 * lv) + i)) hx.i31 (by omega) (by first | decide | omega) rfl dX12_isServed_30 ?_
    rw [(hm.uu i hiu).1]
    refine go_istore_n (q := 2) (i := 2) rfl dX12_isServed_31 (nle rfl) (nle rfl) ?_
    refine go_iconst (v := nI 0) (by decide) dX12_isServed_32 ?_
    refine go_istore_n (q := 3) (i := 3) rfl dX12_isServed_33 (nle rfl) (nle rfl) ?_
    exact key 0 (Nat.zero_le _) _ (fun c l q => absurd q (by omega))
/-- how many of the first n -/
noncomputable def cnt (p : Nat → Prop) : Nat → Nat
  | 0 => 0
  | i + 1 => pit (p i) (cnt p i + 1) (cnt p i)
theorem cnt_t {p : Nat → Prop} {i : Nat} (h : p i) : cnt p (i + 1) = cnt p i + 1 := pit_t h
theorem cnt_f {p : Nat → Prop} {i : Nat} (h : ¬ p i) : cnt p (i + 1) = cnt p i := pit_f h
theorem cnt_le {p : Nat → Prop} : ∀ i, cnt p i ≤ i
  | 0 => Nat.le_refl 0
  | i + 1 => by
    by_cases h : p i
    · rw [cnt_t h]; exact Nat.succ_le_succ (cnt_le i)
    · rw [cnt_f h]; exact Nat.le_succ_of_le (cnt_le i)
theorem cpos {c : Nat} (h : c < 2 ^ 31) : (nI c < 0) = False := by simp only [eq_iff_iff, iff_false]; exact nI_pos h
theorem cneg : ((-1 : Int32) < 0) = True := by simp only [eq_iff_iff, iff_true]; decide
noncomputable def servedS (P : Pl) (r : Nat → Int32) (u n : Int32) : Int32 := if inS u (nI 0) (nI P.us - nI 1) = nI 0 then -1 else if inS n (nI 0) (nI 72) = nI 0 then -1 else svS P (hrN P (-1) P.se n.toNatClampNeg r) u.toNatClampNeg
noncomputable def missS (P : Pl) (r : Nat → Int32) (u n : Int32) : Int32 := if inS u (nI 0) (nI P.us - nI 1) = nI 0 then -1 else if inS n (nI 1) (nI 72) = nI 0 then -1 else nI (cnt (fun i => svS P (hrN P (-1) P.se i r) u.toNatClampNeg = nI 0) n.toNatClampNeg)
noncomputable def hidS (P : Pl) (r : Nat → Int32) (x y n th : Int32) : Int32 := if ceS P x y < 0 then -1 else if inS n (nI 1) (nI 72) = nI 0 then -1 else if inS th (nI 0) (nI 99) = nI 0 then -1 else nI (cnt (fun i => th ≤ hrN P (-1) P.se i r (ceS P x y).toNatClampNeg) n.toNatClampNeg)
set_option maxRecDepth 100000 in
set_option maxHeartbeats 8000000 in
theorem ev_served {m : Me} {pl dr M : Nat} {P : Pl} {r : Nat → Int32} (hX : CX m.1 (gR m) pl dr) (hP : PlC m pl P) (ok : PlOk P) (hM : M < 2 ^ 18) (hr : RoOk P M r) (hc : CR P (gw m 15) r) {u n : Int32} : Ev mX11_served [.ref 0, .int u, .int n] m (fun o m' => o = some (.int (servedS P r u n)) ∧ Ch (LkS pl) m m') := by
  refine ⟨plmX11_served, nle rfl, ?_⟩
  have hw8 := ok.1
  have hr5 := ok.2.1
  have hpd := hX.pd
  have hh4 := ok.2.2.1
  have hu6 := ok.2.2.2.1
  rcases hd_c (n := P.us) (by omega) u with hu | ⟨i, hi, rfl, hu⟩
  · skip
    refine go_aload_n (q := 0) (i := 0) rfl rfl dX11_served_0 ?_
    refine go_getR lf11_86 rfl hX.o hX.rp dX11_served_1 ?_
    refine go_iload_n (q := 1) (i := 1) rfl rfl dX11_served_4 ?_
    refine go_callV okmX7_hasUse lmX11_175 ⟨nle rfl, nle rfl⟩ hX.wp.o ⟨by decide, rfl⟩ (ev_hasUse hX.wp) npmX7_hasUse rfl (nle rfl) ⟨nle rfl, nle rfl⟩ dX11_served_5 ?_
    rintro _ mz ⟨rfl, hz⟩
    subst mz
    rw [hP.us, has_in ok.2.2.2.1 (by decide), hu]
    refine go_c1 ?_
    refine gz_eq (by omega) (tgt := 18) dX11_served_8 (by decide) (fun h8 => ?_) (fun h8 => by exfalso; omega)
    refine go_iconst (v := -1) (by decide) dX11_served_18 ?_
    refine go_iret rfl ⟨Nat.zero_le _, Nat.zero_le _⟩ dX11_served_19 ?_
    refine ⟨?_, Ch.rf⟩
    simp only [servedS, hu, i10, reduceIte]
  · skip
    rcases in_c n (N := 72) (by decide) with hn | ⟨j, hj, rfl, hn⟩
    · skip
      refine go_aload_n (q := 0) (i := 0) rfl rfl dX11_served_0 ?_
      refine go_getR lf11_86 rfl hX.o hX.rp dX11_served_1 ?_
      refine go_iload_n (q := 1) (i := 1) rfl rfl dX11_served_4 ?_
      refine go_callV okmX7_hasUse lmX11_175 ⟨nle rfl, nle rfl⟩ hX.wp.o ⟨by decide, rfl⟩ (ev_hasUse hX.wp) npmX7_hasUse rfl (nle rfl) ⟨nle rfl, nle rfl⟩ dX11_served_5 ?_
      rintro _ mz ⟨rfl, hz⟩
      subst mz
      rw [hP.us, has_in ok.2.2.2.1 (by decide), hu]
      refine go_c1 ?_
      refine gz_eq (by omega) (tgt := 18) dX11_served_8 (by decide) (fun h8 => by exfalso; omega) (fun h8 => ?_)
      refine go_iload_n (q := 2) (i := 2) rfl rfl dX11_served_11 ?_
      refine go_callS okmX11_isAhead lmX11_219 ⟨nle rfl, nle rfl⟩ (ev_isAhead) npmX11_isAhead rfl (nle rfl) ⟨nle rfl, nle rfl⟩ dX11_served_12 ?_
      rintro _ mz ⟨rfl, hz⟩
      subst mz
      rw [ah_in, hn]
      refine go_c1 ?_
      refine gz_ne (by omega) (tgt := 20) dX11_served_15 (by decide) (fun h15 => by exfalso; omega) (fun h15 => ?_)
      refine go_iconst (v := -1) (by decide) dX11_served_18 ?_
      refine go_iret rfl ⟨Nat.zero_le _, Nat.zero_le _⟩ dX11_served_19 ?_
      refine ⟨?_, Ch.rf⟩
      simp only [servedS, hu, hn, i10, reduceIte]
    · skip
      refine go_aload_n (q := 0) (i := 0) rfl rfl dX11_served_0 ?_
      refine go_getR lf11_86 rfl hX.o hX.rp dX11_served_1 ?_
      refine go_iload_n (q := 1) (i := 1) rfl rfl dX11_served_4 ?_
      refine go_callV okmX7_hasUse lmX11_175 ⟨nle rfl, nle rfl⟩ hX.wp.o ⟨by decide, rfl⟩ (ev_hasUse hX.wp) npmX7_hasUse rfl (nle rfl) ⟨nle rfl, nle rfl⟩ dX11_served_5 ?_
      rintro _ mz ⟨rfl, hz⟩
      subst mz
      rw [hP.us, has_in ok.2.2.2.1 (by decide), hu]
      refine go_c1 ?_
      refine gz_eq (by omega) (tgt := 18) dX11_served_8 (by decide) (fun h8 => by exfalso; omega) (fun h8 => ?_)
      refine go_iload_n (q := 2) (i := 2) rfl rfl dX11_served_11 ?_
      refine go_callS okmX11_isAhead lmX11_219 ⟨nle rfl, nle rfl⟩ (ev_isAhead) npmX11_isAhead rfl (nle rfl) ⟨nle rfl, nle rfl⟩ dX11_served_12 ?_
      rintro _ mz ⟨rfl, hz⟩
      subst mz
      rw [ah_in, hn]
      refine go_c1 ?_
      refine gz_ne (by omega) (tgt := 20) dX11_served_15 (by decide) (fun h15 => ?_) (fun h15 => by exfalso; omega)
      refine go_aload_n (q := 0) (i := 0) rfl rfl dX11_served_20 ?_
      refine go_getR lf11_51 rfl hX.o hX.r6 dX11_served_21 ?_
      refine go_aload_n (q := 0) (i := 0) rfl rfl dX11_served_24 ?_
      refine go_getR lf11_47 rfl hX.o hX.r5 dX11_served_25 ?_
      refine go_callV okmX1_copyFrom lmX11_205 ⟨nle rfl, nle rfl⟩ hX.w6.o ⟨by decide, rfl⟩ (ev_copyFrom hX.w6 hX.w5 (by omega)) npmX1_copyFrom rfl (nle rfl) ⟨nle rfl, nle rfl⟩ dX11_served_28 ?_
      rintro _ m1 ⟨rfl, cA, eA⟩
      have c1 : Ch (LkS pl) m m1 := cA.mn (fun x hx => by unfold LkS; omega)
      have hP := hP.lk hX c1
      have hX := CX.to c1 hX
      have hc1 : CR P (gw m1 21) r := by rw [eA]; exact hc
      refine go_c0 ?_
      refine go_aload_n (q := 0) (i := 0) rfl rfl dX11_served_31 ?_
      refine go_iload_n (q := 2) (i := 2) rfl rfl dX11_served_32 ?_
      refine go_aload_n (q := 0) (i := 0) rfl rfl dX11_served_33 ?_
      refine go_getR lf11_86 rfl hX.o hX.rp dX11_served_34 ?_
      refine go_getI lf11_208 rfl hX.wp.o dX11_served_37 ?_
      rw [hP.se]
      refine go_callV okmX11_passLater lmX11_211 ⟨nle rfl, nle rfl⟩ hX.o ⟨by decide, rfl⟩ (ev_passLater (M := M) hX hP ok (by omega) hM hr hc1) npmX11_passLater rfl (nle rfl) ⟨nle rfl, nle rfl⟩ dX11_served_40 ?_
      rintro _ m2 ⟨rfl, cB, hc2⟩
      have c2 := c1.tr cB
      have hP := hP.lk hX cB
      have hX := CX.to cB hX
      refine go_c0 ?_
      refine go_aload_n (q := 0) (i := 0) rfl rfl dX11_served_43 ?_
      refine go_aload_n (q := 0) (i := 0) rfl rfl dX11_served_44 ?_
      refine go_getR lf11_51 rfl hX.o hX.r6 dX11_served_45 ?_
      refine go_iload_n (q := 1) (i := 1) rfl rfl dX11_served_48 ?_
      refine go_callV okmX11_isServed lmX11_242 ⟨nle rfl, nle rfl⟩ hX.o ⟨by decide, rfl⟩ (ev_isServed hX hP ok hX.w6 hi hc2) npmX11_isServed rfl (nle rfl) ⟨nle rfl, nle rfl⟩ dX11_served_49 ?_
      rintro _ mz ⟨rfl, hz⟩
      subst mz
      refine go_c1 ?_
      refine go_if_eq (tgt := 59) dX11_served_52 (by decide) (fun h52 => ?_) (fun h52 => ?_)
      · skip
        refine go_iconst (v := nI 0) (by decide) dX11_served_59 ?_
        refine go_iret rfl ⟨Nat.zero_le _, Nat.zero_le _⟩ dX11_served_60 ?_
        refine ⟨?_, c2⟩
        simp only [servedS, hu, hn, i10, reduceIte, nI_clamp (show j < 2 ^ 31 by omega), nI_clamp (show i < 2 ^ 31 by omega)]
        rw [show svS P (hrN P (-1) P.se j r) i = nI 0 from h52.trans nI_0.symm]
      · skip
        refine go_iconst (v := nI 1) (by decide) dX11_served_55 ?_
        refine go_goto (tgt := 60) dX11_served_56 (by decide) ?_
        refine go_iret rfl ⟨Nat.zero_le _, Nat.zero_le _⟩ dX11_served_60 ?_
        refine ⟨?_, c2⟩
        simp only [servedS, hu, hn, i10, reduceIte, nI_clamp (show j < 2 ^ 31 by omega), nI_clamp (show i < 2 ^ 31 by omega)]
        rw [is_1 (sv01 _ _ _) (fun z => h52 (z.trans nI_0))]
set_option maxRecDepth 100000 in
set_option maxHeartbeats 8000000 in
theorem ex_served {m : Me} {P : Pl} {lv : Nat} (hx : Wf12 m.1 (gR m)) (hm : MdC m P lv) (ok : PlOk P) {u n : Int32} : Ev mX12_served [.ref 274, .int u, .int n] m (fun o m' => o = some (.int (servedS P (cp 105 (gI m 315) (gI m 316)) u n)) ∧ Mo m m') := by
  refine ⟨plmX12_served, nle rfl, ?_⟩
  have hw8 := ok.1
  have hr5 := ok.2.1
  have hlv := hm.lv
  have hh4 := ok.2.2.1
  have hu6 := ok.2.2.2.1
  rcases hd_c (n := P.us) (by omega) u with hu | ⟨i, hi, rfl, hu⟩
  · skip
    refine go_aload_n (q := 0) (i := 0) rfl rfl dX12_served_0 ?_
    refine go_iload_n (q := 1) (i := 1) rfl rfl dX12_served_1 ?_
    refine go_callV okmX12_isUse lmX12_429 ⟨nle rfl, nle rfl⟩ hx.o ⟨by decide, rfl⟩ (ex_isUse hx hm) npmX12_isUse rfl (nle rfl) ⟨nle rfl, nle rfl⟩ dX12_served_2 ?_
    rintro _ mz ⟨rfl, hz⟩
    subst mz
    rw [hu]
    refine go_c1 ?_
    refine gz_eq (by omega) (tgt := 15) dX12_served_5 (by decide) (fun h5 => ?_) (fun h5 => by exfalso; omega)
    refine go_iconst (v := -1) (by decide) dX12_served_15 ?_
    refine go_iret rfl ⟨Nat.zero_le _, Nat.zero_le _⟩ dX12_served_16 ?_
    refine ⟨?_, Mo.rf⟩
    simp only [servedS, hu, i10, reduceIte]
  · skip
    rcases in_c n (N := 72) (by decide) with hn | ⟨j, hj, rfl, hn⟩
    · skip
      refine go_aload_n (q := 0) (i := 0) rfl rfl dX12_served_0 ?_
      refine go_iload_n (q := 1) (i := 1) rfl rfl dX12_served_1 ?_
      refine go_callV okmX12_isUse lmX12_429 ⟨nle rfl, nle rfl⟩ hx.o ⟨by decide, rfl⟩ (ex_isUse hx hm) npmX12_isUse rfl (nle rfl) ⟨nle rfl, nle rfl⟩ dX12_served_2 ?_
      rintro _ mz ⟨rfl, hz⟩
      subst mz
      rw [hu]
      refine go_c1 ?_
      refine gz_eq (by omega) (tgt := 15) dX12_served_5 (by decide) (fun h5 => by exfalso; omega) (fun h5 => ?_)
      refine go_iload_n (q := 2) (i := 2) rfl rfl dX12_served_8 ?_
      refine go_callS okmX12_isLong lmX12_441 ⟨nle rfl, nle rfl⟩ (ex_isLong) npmX12_isLong rfl (nle rfl) ⟨nle rfl, nle rfl⟩ dX12_served_9 ?_
      rintro _ mz ⟨rfl, hz⟩
      subst mz
      rw [hn]
      refine go_c1 ?_
      refine gz_ne (by omega) (tgt := 17) dX12_served_12 (by decide) (fun h12 => by exfalso; omega) (fun h12 => ?_)
      refine go_iconst (v := -1) (by decide) dX12_served_15 ?_
      refine go_iret rfl ⟨Nat.zero_le _, Nat.zero_le _⟩ dX12_served_16 ?_
      refine ⟨?_, Mo.rf⟩
      simp only [servedS, hu, hn, i10, reduceIte]
    · skip
      refine go_aload_n (q := 0) (i := 0) rfl rfl dX12_served_0 ?_
      refine go_iload_n (q := 1) (i := 1) rfl rfl dX12_served_1 ?_
      refine go_callV okmX12_isUse lmX12_429 ⟨nle rfl, nle rfl⟩ hx.o ⟨by decide, rfl⟩ (ex_isUse hx hm) npmX12_isUse rfl (nle rfl) ⟨nle rfl, nle rfl⟩ dX12_served_2 ?_
      rintro _ mz ⟨rfl, hz⟩
      subst mz
      rw [hu]
      refine go_c1 ?_
      refine gz_eq (by omega) (tgt := 15) dX12_served_5 (by decide) (fun h5 => by exfalso; omega) (fun h5 => ?_)
      refine go_iload_n (q := 2) (i := 2) rfl rfl dX12_served_8 ?_
      refine go_callS okmX12_isLong lmX12_441 ⟨nle rfl, nle rfl⟩ (ex_isLong) npmX12_isLong rfl (nle rfl) ⟨nle rfl, nle rfl⟩ dX12_served_9 ?_
      rintro _ mz ⟨rfl, hz⟩
      subst mz
      rw [hn]
      refine go_c1 ?_
      refine gz_ne (by omega) (tgt := 17) dX12_served_12 (by decide) (fun h12 => ?_) (fun h12 => by exfalso; omega)
      refine go_aload_n (q := 0) (i := 0) rfl rfl dX12_served_17 ?_
      refine go_callV okmX12_copies lmX12_413 ⟨nle rfl, nle rfl⟩ hx.o ⟨by decide, rfl⟩ (ex_copies hx hm) npmX12_copies rfl (nle rfl) ⟨nle rfl, nle rfl⟩ dX12_served_18 ?_
      rintro _ m1 ⟨rfl, c1, e1, s1, l1, -⟩
      have hx := c1.wf hx
      have hm := c1.md hm
      refine go_c0 ?_
      refine go_aload_n (q := 0) (i := 0) rfl rfl dX12_served_21 ?_
      refine go_iload_n (q := 2) (i := 2) rfl rfl dX12_served_22 ?_
      refine go_callV okmX12_goes lmX12_438 ⟨nle rfl, nle rfl⟩ hx.o ⟨by decide, rfl⟩ (ex_goes hx hm ok (by omega)) npmX12_goes rfl (nle rfl) ⟨nle rfl, nle rfl⟩ dX12_served_23 ?_
      rintro _ m2 ⟨rfl, cB, e2⟩
      rw [s1, l1, e1] at e2
      have c2 := c1.tr cB.1
      have hx := cB.1.wf hx
      have hm := cB.1.md hm
      refine go_c0 ?_
      refine go_aload_n (q := 0) (i := 0) rfl rfl dX12_served_26 ?_
      refine go_iload_n (q := 1) (i := 1) rfl rfl dX12_served_27 ?_
      refine go_callV okmX12_isServed lmX12_450 ⟨nle rfl, nle rfl⟩ hx.o ⟨by decide, rfl⟩ (ex_isServed hx hm ok hi) npmX12_isServed rfl (nle rfl) ⟨nle rfl, nle rfl⟩ dX12_served_28 ?_
      rintro _ mz ⟨rfl, hz⟩
      subst mz
      rw [e2]
      refine go_c1 ?_
      refine go_if_eq (tgt := 38) dX12_served_31 (by decide) (fun h31 => ?_) (fun h31 => ?_)
      · skip
        refine go_iconst (v := nI 0) (by decide) dX12_served_38 ?_
        refine go_iret rfl ⟨Nat.zero_le _, Nat.zero_le _⟩ dX12_served_39 ?_
        refine ⟨?_, c2⟩
        simp only [servedS, hu, hn, i10, reduceIte, nI_clamp (show j < 2 ^ 31 by omega), nI_clamp (show i < 2 ^ 31 by omega)]
        rw [show svS P (hrN P (-1) P.se j (cp 105 (gI m 315) (gI m 316))) i = nI 0 from h31.trans nI_0.symm]
      · skip
        refine go_iconst (v := nI 1) (by decide) dX12_served_34 ?_
        refine go_goto (tgt := 39) dX12_served_35 (by decide) ?_
        refine go_iret rfl ⟨Nat.zero_le _, Nat.zero_le _⟩ dX12_served_39 ?_
        refine ⟨?_, c2⟩
        simp only [servedS, hu, hn, i10, reduceIte, nI_clamp (show j < 2 ^ 31 by omega), nI_clamp (show i < 2 ^ 31 by omega)]
        rw [is_1 (sv01 _ _ _) (fun z => h31 (z.trans nI_0))]
set_option maxRecDepth 100000 in
set_option maxHeartbeats 8000000 in
theorem ev_missed {m : Me} {pl dr M : Nat} {P : Pl} {r : Nat → Int32} (hX : CX m.1 (gR m) pl dr) (hP : PlC m pl P) (ok : PlOk P) (hM : M < 2 ^ 18) (hr : RoOk P M r) (hc : CR P (gw m 15) r) {u n : Int32} : Ev mX11_missed [.ref 0, .int u, .int n] m (fun o m' => o = some (.int (missS P r u n)) ∧ Ch (LkS pl) m m') := by
  refine ⟨plmX11_missed, nle rfl, ?_⟩
  have hw8 := ok.1
  have hr5 := ok.2.1
  have hpd := hX.pd
  have hh4 := ok.2.2.1
  have hu6 := ok.2.2.2.1
  rcases hd_c (n := P.us) (by omega) u with hu | ⟨i0, hi0, rfl, hu⟩
  · skip
    refine go_aload_n (q := 0) (i := 0) rfl rfl dX11_missed_0 ?_
    refine go_getR lf11_86 rfl hX.o hX.rp dX11_missed_1 ?_
    refine go_iload_n (q := 1) (i := 1) rfl rfl dX11_missed_4 ?_
    refine go_callV okmX7_hasUse lmX11_175 ⟨nle rfl, nle rfl⟩ hX.wp.o ⟨by decide, rfl⟩ (ev_hasUse hX.wp) npmX7_hasUse rfl (nle rfl) ⟨nle rfl, nle rfl⟩ dX11_missed_5 ?_
    rintro _ mz ⟨rfl, hz⟩
    subst mz
    rw [hP.us, has_in ok.2.2.2.1 (by decide), hu]
    refine go_c1 ?_
    refine gz_eq (by omega) (tgt := 23) dX11_missed_8 (by decide) (fun h8 => ?_) (fun h8 => by exfalso; omega)
    refine go_iconst (v := -1) (by decide) dX11_missed_23 ?_
    refine go_iret rfl ⟨Nat.zero_le _, Nat.zero_le _⟩ dX11_missed_24 ?_
    refine ⟨?_, Ch.rf⟩
    simp only [missS, hu, i10, reduceIte]
  · skip
    rcases in_c n (N := 72) (by decide) with hn | ⟨j, hj, rfl, hn⟩
    · skip
      refine go_aload_n (q := 0) (i := 0) rfl rfl dX11_missed_0 ?_
      refine go_getR lf11_86 rfl hX.o hX.rp dX11_missed_1 ?_
      refine go_iload_n (q := 1) (i := 1) rfl rfl dX11_missed_4 ?_
      refine go_callV okmX7_hasUse lmX11_175 ⟨nle rfl, nle rfl⟩ hX.wp.o ⟨by decide, rfl⟩ (ev_hasUse hX.wp) npmX7_hasUse rfl (nle rfl) ⟨nle rfl, nle rfl⟩ dX11_missed_5 ?_
      rintro _ mz ⟨rfl, hz⟩
      subst mz
      rw [hP.us, has_in ok.2.2.2.1 (by decide), hu]
      refine go_c1 ?_
      refine gz_eq (by omega) (tgt := 23) dX11_missed_8 (by decide) (fun h8 => by exfalso; omega) (fun h8 => ?_)
      refine go_iload_n (q := 2) (i := 2) rfl rfl dX11_missed_11 ?_
      refine go_iconst (v := nI 1) (by decide) dX11_missed_12 ?_
      refine go_icmp_lt (tgt := 23) dX11_missed_13 (by decide) (fun h13 => ?_) (fun h13 => ?_)
      · skip
        refine go_iconst (v := -1) (by decide) dX11_missed_23 ?_
        refine go_iret rfl ⟨Nat.zero_le _, Nat.zero_le _⟩ dX11_missed_24 ?_
        refine ⟨?_, Ch.rf⟩
        simp only [missS, hu, in1_n hn, i10, reduceIte]
      · skip
        refine go_iload_n (q := 2) (i := 2) rfl rfl dX11_missed_16 ?_
        refine go_callS okmX11_isAhead lmX11_219 ⟨nle rfl, nle rfl⟩ (ev_isAhead) npmX11_isAhead rfl (nle rfl) ⟨nle rfl, nle rfl⟩ dX11_missed_17 ?_
        rintro _ mz ⟨rfl, hz⟩
        subst mz
        rw [ah_in, hn]
        refine go_c1 ?_
        refine gz_ne (by omega) (tgt := 25) dX11_missed_20 (by decide) (fun h20 => by exfalso; omega) (fun h20 => ?_)
        refine go_iconst (v := -1) (by decide) dX11_missed_23 ?_
        refine go_iret rfl ⟨Nat.zero_le _, Nat.zero_le _⟩ dX11_missed_24 ?_
        refine ⟨?_, Ch.rf⟩
        simp only [missS, hu, in1_n hn, i10, reduceIte]
    · skip
      rcases (show j = 0 ∨ 1 ≤ j by omega) with rfl | hj1
      · skip
        refine go_aload_n (q := 0) (i := 0) rfl rfl dX11_missed_0 ?_
        refine go_getR lf11_86 rfl hX.o hX.rp dX11_missed_1 ?_
        refine go_iload_n (q := 1) (i := 1) rfl rfl dX11_missed_4 ?_
        refine go_callV okmX7_hasUse lmX11_175 ⟨nle rfl, nle rfl⟩ hX.wp.o ⟨by decide, rfl⟩ (ev_hasUse hX.wp) npmX7_hasUse rfl (nle rfl) ⟨nle rfl, nle rfl⟩ dX11_missed_5 ?_
        rintro _ mz ⟨rfl, hz⟩
        subst mz
        rw [hP.us, has_in ok.2.2.2.1 (by decide), hu]
        refine go_c1 ?_
        refine gz_eq (by omega) (tgt := 23) dX11_missed_8 (by decide) (fun h8 => by exfalso; omega) (fun h8 => ?_)
        refine go_iload_n (q := 2) (i := 2) rfl rfl dX11_missed_11 ?_
        refine go_iconst (v := nI 1) (by decide) dX11_missed_12 ?_
        refine gn_lt (by omega) (by omega) (tgt := 23) dX11_missed_13 (by decide) (fun h13 => ?_) (fun h13 => by exfalso; omega)
        refine go_iconst (v := -1) (by decide) dX11_missed_23 ?_
        refine go_iret rfl ⟨Nat.zero_le _, Nat.zero_le _⟩ dX11_missed_24 ?_
        refine ⟨?_, Ch.rf⟩
        simp only [missS, hu, show inS (nI 0) (nI 1) (nI 72) = nI 0 from by decide, i10, reduceIte]
      · skip
        have key : ∀ i, i ≤ j → ∀ mi : Me, Ch (LkS pl) m mi → CR P (gw mi 21) (hrN P (-1) P.se i r) → Go mX11_missed (fun o m' => o = some (.int (missS P r (nI i0) (nI j))) ∧ Ch (LkS pl) m m') 41 [some (.ref 0), some (.int (nI i0)), some (.int (nI j)), some (.int (nI (cnt (fun i => svS P (hrN P (-1) P.se i r) i0 = nI 0) i))), some (.int (nI i))] [] mi 0 0 := by
          refine loop_up j ?_ ?_
          · intro mi c1 hci
            have hX0 := hX
            have hX := CX.to c1 hX
            have hP := hP.lk hX0 c1
            have hcl := cnt_le (p := (fun i => svS P (hrN P (-1) P.se i r) i0 = nI 0)) j
            refine go_iload (i := 4) rfl dX11_missed_41 ?_
            refine go_iload_n (q := 2) (i := 2) rfl rfl dX11_missed_43 ?_
            refine gn_ge (by omega) (by omega) (tgt := 91) dX11_missed_44 (by decide) (fun h44 => ?_) (fun h44 => by exfalso; omega)
            refine go_iload_n (q := 3) (i := 3) rfl rfl dX11_missed_91 ?_
            refine go_iret rfl ⟨Nat.zero_le _, Nat.zero_le _⟩ dX11_missed_92 ?_
            refine ⟨?_, c1⟩
            simp only [missS, hu, in1_j hj1 hj (by decide), i10, reduceIte, nI_clamp (show j < 2 ^ 31 by omega), nI_clamp (show i0 < 2 ^ 31 by omega)]
          · intro i hi ih mi c1 hci
            have hX0 := hX
            have hX := CX.to c1 hX
            have hP := hP.lk hX0 c1
            have hcl := cnt_le (p := (fun i => svS P (hrN P (-1) P.se i r) i0 = nI 0)) i
            refine go_iload (i := 4) rfl dX11_missed_41 ?_
            refine go_iload_n (q := 2) (i := 2) rfl rfl dX11_missed_43 ?_
            refine gn_ge (by omega) (by omega) (tgt := 91) dX11_missed_44 (by decide) (fun h44 => by exfalso; omega) (fun h44 => ?_)
            refine go_aload_n (q := 0) (i := 0) rfl rfl dX11_missed_47 ?_
            refine go_aload_n (q := 0) (i := 0) rfl rfl dX11_missed_48 ?_
            refine go_getR lf11_51 rfl hX.o hX.r6 dX11_missed_49 ?_
            refine go_iload_n (q := 1) (i := 1) rfl rfl dX11_missed_52 ?_
            refine go_callV okmX11_isServed lmX11_242 ⟨nle rfl, nle rfl⟩ hX.o ⟨by decide, rfl⟩ (ev_isServed hX hP ok hX.w6 hi0 hci) npmX11_isServed rfl (nle rfl) ⟨nle rfl, nle rfl⟩ dX11_missed_53 ?_
            rintro _ mz ⟨rfl, hz⟩
            subst mz
            refine go_c1 ?_
            refine go_if_ne (tgt := 62) dX11_missed_56 (by decide) (fun h56 => ?_) (fun h56 => ?_)
            · skip
              refine go_aload_n (q := 0) (i := 0) rfl rfl dX11_missed_62 ?_
              refine go_getR lf11_40 rfl hX.o hX.r4 dX11_missed_63 ?_
              refine go_aload_n (q := 0) (i := 0) rfl rfl dX11_missed_66 ?_
              refine go_getR lf11_86 rfl hX.o hX.rp dX11_missed_67 ?_
              refine go_aload_n (q := 0) (i := 0) rfl rfl dX11_missed_70 ?_
              refine go_getR lf11_51 rfl hX.o hX.r6 dX11_missed_71 ?_
              refine go_aload_n (q := 0) (i := 0) rfl rfl dX11_missed_74 ?_
              refine go_getR lf11_86 rfl hX.o hX.rp dX11_missed_75 ?_
              refine go_getI lf11_208 rfl hX.wp.o dX11_missed_78 ?_
              rw [hP.se]
              refine go_iconst (v := -1) (by decide) dX11_missed_81 ?_
              refine go_callV okmX8_passHour lmX11_238 ⟨nle rfl, nle rfl⟩ hX.w4.o ⟨by decide, rfl⟩ (ev_hour (M := M + i) (se := P.se) (lk := -1) hX.w4 hX.wp hX.w6 hP ok (by omega) (by omega) (by omega) (by omega) (hrN_ok ok hr i (by omega)) hci) npmX8_passHour rfl (nle rfl) ⟨nle rfl, nle rfl⟩ dX11_missed_82 ?_
              rintro _ m2 ⟨rfl, c2, h2⟩
              have c2 : Ch (LkS pl) mi m2 := c2.mn (fun x hx => by unfold LkS; omega)
              refine go_c0 ?_
              refine gn_inc (i := 4) (a := i) (q := 1) rfl dX11_missed_85 (nle rfl) rfl ?_
              refine go_goto (tgt := 41) dX11_missed_88 (by decide) ?_
              rw [show cnt (fun i => svS P (hrN P (-1) P.se i r) i0 = nI 0) i = cnt (fun i => svS P (hrN P (-1) P.se i r) i0 = nI 0) (i + 1) from (cnt_f (show ¬ svS P (hrN P (-1) P.se i r) i0 = nI 0 from fun z => h56 (z.trans nI_0))).symm]
              exact ih _ (c1.tr c2) h2
            · skip
              refine gn_inc (i := 3) (a := cnt (fun i => svS P (hrN P (-1) P.se i r) i0 = nI 0) i) (q := 1) rfl dX11_missed_59 (nle rfl) rfl ?_
              refine go_aload_n (q := 0) (i := 0) rfl rfl dX11_missed_62 ?_
              refine go_getR lf11_40 rfl hX.o hX.r4 dX11_missed_63 ?_
              refine go_aload_n (q := 0) (i := 0) rfl rfl dX11_missed_66 ?_
              refine go_getR lf11_86 rfl hX.o hX.rp dX11_missed_67 ?_
              refine go_aload_n (q := 0) (i := 0) rfl rfl dX11_missed_70 ?_
              refine go_getR lf11_51 rfl hX.o hX.r6 dX11_missed_71 ?_
              refine go_aload_n (q := 0) (i := 0) rfl rfl dX11_missed_74 ?_
              refine go_getR lf11_86 rfl hX.o hX.rp dX11_missed_75 ?_
              refine go_getI lf11_208 rfl hX.wp.o dX11_missed_78 ?_
              rw [hP.se]
              refine go_iconst (v := -1) (by decide) dX11_missed_81 ?_
              refine go_callV okmX8_passHour lmX11_238 ⟨nle rfl, nle rfl⟩ hX.w4.o ⟨by decide, rfl⟩ (ev_hour (M := M + i) (se := P.se) (lk := -1) hX.w4 hX.wp hX.w6 hP ok (by omega) (by omega) (by omega) (by omega) (hrN_ok ok hr i (by omega)) hci) npmX8_passHour rfl (nle rfl) ⟨nle rfl, nle rfl⟩ dX11_missed_82 ?_
              rintro _ m2 ⟨rfl, c2, h2⟩
              have c2 : Ch (LkS pl) mi m2 := c2.mn (fun x hx => by unfold LkS; omega)
              refine go_c0 ?_
              refine gn_inc (i := 4) (a := i) (q := 1) rfl dX11_missed_85 (nle rfl) rfl ?_
              refine go_goto (tgt := 41) dX11_missed_88 (by decide) ?_
              rw [show cnt (fun i => svS P (hrN P (-1) P.se i r) i0 = nI 0) i + 1 = cnt (fun i => svS P (hrN P (-1) P.se i r) i0 = nI 0) (i + 1) from (cnt_t (show svS P (hrN P (-1) P.se i r) i0 = nI 0 from h56.trans nI_0.symm)).symm]
              exact ih _ (c1.tr c2) h2
        refine go_aload_n (q := 0) (i := 0) rfl rfl dX11_missed_0 ?_
        refine go_getR lf11_86 rfl hX.o hX.rp dX11_missed_1 ?_
        refine go_iload_n (q := 1) (i := 1) rfl rfl dX11_missed_4 ?_
        refine go_callV okmX7_hasUse lmX11_175 ⟨nle rfl, nle rfl⟩ hX.wp.o ⟨by decide, rfl⟩ (ev_hasUse hX.wp) npmX7_hasUse rfl (nle rfl) ⟨nle rfl, nle rfl⟩ dX11_missed_5 ?_
        rintro _ mz ⟨rfl, hz⟩
        subst mz
        rw [hP.us, has_in ok.2.2.2.1 (by decide), hu]
        refine go_c1 ?_
        refine gz_eq (by omega) (tgt := 23) dX11_missed_8 (by decide) (fun h8 => by exfalso; omega) (fun h8 => ?_)
        refine go_iload_n (q := 2) (i := 2) rfl rfl dX11_missed_11 ?_
        refine go_iconst (v := nI 1) (by decide) dX11_missed_12 ?_
        refine gn_lt (by omega) (by omega) (tgt := 23) dX11_missed_13 (by decide) (fun h13 => by exfalso; omega) (fun h13 => ?_)
        refine go_iload_n (q := 2) (i := 2) rfl rfl dX11_missed_16 ?_
        refine go_callS okmX11_isAhead lmX11_219 ⟨nle rfl, nle rfl⟩ (ev_isAhead) npmX11_isAhead rfl (nle rfl) ⟨nle rfl, nle rfl⟩ dX11_missed_17 ?_
        rintro _ mz ⟨rfl, hz⟩
        subst mz
        rw [ah_in, hn]
        refine go_c1 ?_
        refine gz_ne (by omega) (tgt := 25) dX11_missed_20 (by decide) (fun h20 => ?_) (fun h20 => by exfalso; omega)
        refine go_iconst (v := nI 0) (by decide) dX11_missed_25 ?_
        refine go_istore_n (q := 3) (i := 3) rfl dX11_missed_26 (nle rfl) (nle rfl) ?_
        refine go_aload_n (q := 0) (i := 0) rfl rfl dX11_missed_27 ?_
        refine go_getR lf11_51 rfl hX.o hX.r6 dX11_missed_28 ?_
        refine go_aload_n (q := 0) (i := 0) rfl rfl dX11_missed_31 ?_
        refine go_getR lf11_47 rfl hX.o hX.r5 dX11_missed_32 ?_
        refine go_callV okmX1_copyFrom lmX11_205 ⟨nle rfl, nle rfl⟩ hX.w6.o ⟨by decide, rfl⟩ (ev_copyFrom hX.w6 hX.w5 (by omega)) npmX1_copyFrom rfl (nle rfl) ⟨nle rfl, nle rfl⟩ dX11_missed_35 ?_
        rintro _ m1 ⟨rfl, cA, eA⟩
        have c1 : Ch (LkS pl) m m1 := cA.mn (fun x hx => by unfold LkS; omega)
        have hP := hP.lk hX c1
        have hX := CX.to c1 hX
        have hc1 : CR P (gw m1 21) r := by rw [eA]; exact hc
        refine go_c0 ?_
        refine go_iconst (v := nI 0) (by decide) dX11_missed_38 ?_
        refine go_istore (i := 4) dX11_missed_39 (nle rfl) (nle rfl) ?_
        exact key 0 (Nat.zero_le _) m1 c1 hc1
set_option maxRecDepth 100000 in
set_option maxHeartbeats 8000000 in
theorem ex_missed {m : Me} {P : Pl} {lv : Nat} (hx : Wf12 m.1 (gR m)) (hm : MdC m P lv) (ok : PlOk P) {u n : Int32} : Ev mX12_missed [.ref 274, .int u, .int n] m (fun o m' => o = some (.int (missS P (cp 105 (gI m 315) (gI m 316)) u n)) ∧ Mo m m') := by
  refine ⟨plmX12_missed, nle rfl, ?_⟩
  have hw8 := ok.1
  have hr5 := ok.2.1
  have hlv := hm.lv
  have hh4 := ok.2.2.1
  have hu6 := ok.2.2.2.1
  rcases hd_c (n := P.us) (by omega) u with hu | ⟨i0, hi0, rfl, hu⟩
  · skip
    refine go_aload_n (q := 0) (i := 0) rfl rfl dX12_missed_0 ?_
    refine go_iload_n (q := 1) (i := 1) rfl rfl dX12_missed_1 ?_
    refine go_callV okmX12_isUse lmX12_429 ⟨nle rfl, nle rfl⟩ hx.o ⟨by decide, rfl⟩ (ex_isUse hx hm) npmX12_isUse rfl (nle rfl) ⟨nle rfl, nle rfl⟩ dX12_missed_2 ?_
    rintro _ mz ⟨rfl, hz⟩
    subst mz
    rw [hu]
    refine go_c1 ?_
    refine gz_eq (by omega) (tgt := 18) dX12_missed_5 (by decide) (fun h5 => ?_) (fun h5 => by exfalso; omega)
    refine go_iconst (v := -1) (by decide) dX12_missed_18 ?_
    refine go_iret rfl ⟨Nat.zero_le _, Nat.zero_le _⟩ dX12_missed_19 ?_
    refine ⟨?_, Mo.rf⟩
    simp only [missS, hu, i10, reduceIte]
  · skip
    rcases in_c n (N := 72) (by decide) with hn | ⟨j, hj, rfl, hn⟩
    · skip
      refine go_aload_n (q := 0) (i := 0) rfl rfl dX12_missed_0 ?_
      refine go_iload_n (q := 1) (i := 1) rfl rfl dX12_missed_1 ?_
      refine go_callV okmX12_isUse lmX12_429 ⟨nle rfl, nle rfl⟩ hx.o ⟨by decide, rfl⟩ (ex_isUse hx hm) npmX12_isUse rfl (nle rfl) ⟨nle rfl, nle rfl⟩ dX12_missed_2 ?_
      rintro _ mz ⟨rfl, hz⟩
      subst mz
      rw [hu]
      refine go_c1 ?_
      refine gz_eq (by omega) (tgt := 18) dX12_missed_5 (by decide) (fun h5 => by exfalso; omega) (fun h5 => ?_)
      refine go_iload_n (q := 2) (i := 2) rfl rfl dX12_missed_8 ?_
      refine go_iconst (v := nI 1) (by decide) dX12_missed_9 ?_
      refine go_bipush (v := nI 72) (by decide) dX12_missed_10 ?_
      refine go_callS okmX12_in lmX12_361 ⟨nle rfl, nle rfl⟩ (ex_in) npmX12_in rfl (nle rfl) ⟨nle rfl, nle rfl⟩ dX12_missed_12 ?_
      rintro _ mz ⟨rfl, hz⟩
      subst mz
      rw [in1_n hn]
      refine go_c1 ?_
      refine gz_ne (by omega) (tgt := 20) dX12_missed_15 (by decide) (fun h15 => by exfalso; omega) (fun h15 => ?_)
      refine go_iconst (v := -1) (by decide) dX12_missed_18 ?_
      refine go_iret rfl ⟨Nat.zero_le _, Nat.zero_le _⟩ dX12_missed_19 ?_
      refine ⟨?_, Mo.rf⟩
      simp only [missS, hu, in1_n hn, i10, reduceIte]
    · skip
      rcases (show j = 0 ∨ 1 ≤ j by omega) with rfl | hj1
      · skip
        refine go_aload_n (q := 0) (i := 0) rfl rfl dX12_missed_0 ?_
        refine go_iload_n (q := 1) (i := 1) rfl rfl dX12_missed_1 ?_
        refine go_callV okmX12_isUse lmX12_429 ⟨nle rfl, nle rfl⟩ hx.o ⟨by decide, rfl⟩ (ex_isUse hx hm) npmX12_isUse rfl (nle rfl) ⟨nle rfl, nle rfl⟩ dX12_missed_2 ?_
        rintro _ mz ⟨rfl, hz⟩
        subst mz
        rw [hu]
        refine go_c1 ?_
        refine gz_eq (by omega) (tgt := 18) dX12_missed_5 (by decide) (fun h5 => by exfalso; omega) (fun h5 => ?_)
        refine go_iload_n (q := 2) (i := 2) rfl rfl dX12_missed_8 ?_
        refine go_iconst (v := nI 1) (by decide) dX12_missed_9 ?_
        refine go_bipush (v := nI 72) (by decide) dX12_missed_10 ?_
        refine go_callS okmX12_in lmX12_361 ⟨nle rfl, nle rfl⟩ (ex_in) npmX12_in rfl (nle rfl) ⟨nle rfl, nle rfl⟩ dX12_missed_12 ?_
        rintro _ mz ⟨rfl, hz⟩
        subst mz
        rw [show inS (nI 0) (nI 1) (nI 72) = nI 0 from by decide]
        refine go_c1 ?_
        refine gz_ne (by omega) (tgt := 20) dX12_missed_15 (by decide) (fun h15 => by exfalso; omega) (fun h15 => ?_)
        refine go_iconst (v := -1) (by decide) dX12_missed_18 ?_
        refine go_iret rfl ⟨Nat.zero_le _, Nat.zero_le _⟩ dX12_missed_19 ?_
        refine ⟨?_, Mo.rf⟩
        simp only [missS, hu, show inS (nI 0) (nI 1) (nI 72) = nI 0 from by decide, i10, reduceIte]
      · skip
        have key : ∀ i, i ≤ j → ∀ mi : Me, Mo m mi → gI mi 316 = hrN P (-1) P.se i (cp 105 (gI m 315) (gI m 316)) → gI mi 274 60 = P.se → gI mi 274 61 = -1 → Go mX12_missed (fun o m' => o = some (.int (missS P (cp 105 (gI m 315) (gI m 316)) (nI i0) (nI j))) ∧ Mo m m') 29 [some (.ref 274), some (.int (nI i0)), some (.int (nI j)), some (.int (nI (cnt (fun i => svS P (hrN P (-1) P.se i (cp 105 (gI m 315) (gI m 316))) i0 = nI 0) i))), some (.int (nI i))] [] mi 0 0 := by
          refine loop_up j ?_ ?_
          · intro mi c1 ei si li
            have hx := c1.wf hx
            have hm := c1.md hm
            have hcl := cnt_le (p := (fun i => svS P (hrN P (-1) P.se i (cp 105 (gI m 315) (gI m 316))) i0 = nI 0)) j
            refine go_iload (i := 4) rfl dX12_missed_29 ?_
            refine go_iload_n (q := 2) (i := 2) rfl rfl dX12_missed_31 ?_
            refine gn_ge (by omega) (by omega) (tgt := 56) dX12_missed_32 (by decide) (fun h32 => ?_) (fun h32 => by exfalso; omega)
            refine go_iload_n (q := 3) (i := 3) rfl rfl dX12_missed_56 ?_
            refine go_iret rfl ⟨Nat.zero_le _, Nat.zero_le _⟩ dX12_missed_57 ?_
            refine ⟨?_, c1⟩
            simp only [missS, hu, in1_j hj1 hj (by decide), i10, reduceIte, nI_clamp (show j < 2 ^ 31 by omega), nI_clamp (show i0 < 2 ^ 31 by omega)]
          · intro i hi ih mi c1 ei si li
            have hx := c1.wf hx
            have hm := c1.md hm
            have hcl := cnt_le (p := (fun i => svS P (hrN P (-1) P.se i (cp 105 (gI m 315) (gI m 316))) i0 = nI 0)) i
            refine go_iload (i := 4) rfl dX12_missed_29 ?_
            refine go_iload_n (q := 2) (i := 2) rfl rfl dX12_missed_31 ?_
            refine gn_ge (by omega) (by omega) (tgt := 56) dX12_missed_32 (by decide) (fun h32 => by exfalso; omega) (fun h32 => ?_)
            refine go_aload_n (q := 0) (i := 0) rfl rfl dX12_missed_35 ?_
            refine go_iload_n (q := 1) (i := 1) rfl rfl dX12_missed_36 ?_
            refine go_callV okmX12_isServed lmX12_450 ⟨nle rfl, nle rfl⟩ hx.o ⟨by decide, rfl⟩ (ex_isServed hx hm ok hi0) npmX12_isServed rfl (nle rfl) ⟨nle rfl, nle rfl⟩ dX12_missed_37 ?_
            rintro _ mz ⟨rfl, hz⟩
            subst mz
            rw [ei]
            refine go_c1 ?_
            refine go_if_ne (tgt := 46) dX12_missed_40 (by decide) (fun h40 => ?_) (fun h40 => ?_)
            · skip
              refine go_aload_n (q := 0) (i := 0) rfl rfl dX12_missed_46 ?_
              refine go_callV okmX12_hourGoes lmX12_410 ⟨nle rfl, nle rfl⟩ hx.o ⟨by decide, rfl⟩ (ex_hourGoes hx hm ok) npmX12_hourGoes rfl (nle rfl) ⟨nle rfl, nle rfl⟩ dX12_missed_47 ?_
              rintro _ m2 ⟨rfl, cB, e2⟩
              rw [ei, si, li] at e2
              refine go_c0 ?_
              refine gn_inc (i := 4) (a := i) (q := 1) rfl dX12_missed_50 (nle rfl) rfl ?_
              refine go_goto (tgt := 29) dX12_missed_53 (by decide) ?_
              rw [show cnt (fun i => svS P (hrN P (-1) P.se i (cp 105 (gI m 315) (gI m 316))) i0 = nI 0) i = cnt (fun i => svS P (hrN P (-1) P.se i (cp 105 (gI m 315) (gI m 316))) i0 = nI 0) (i + 1) from (cnt_f (show ¬ svS P (hrN P (-1) P.se i (cp 105 (gI m 315) (gI m 316))) i0 = nI 0 from fun z => h40 (z.trans nI_0))).symm]
              exact ih _ (c1.tr cB.1) e2 (cB.2.1.trans si) (cB.2.2.trans li)
            · skip
              refine gn_inc (i := 3) (a := cnt (fun i => svS P (hrN P (-1) P.se i (cp 105 (gI m 315) (gI m 316))) i0 = nI 0) i) (q := 1) rfl dX12_missed_43 (nle rfl) rfl ?_
              refine go_aload_n (q := 0) (i := 0) rfl rfl dX12_missed_46 ?_
              refine go_callV okmX12_hourGoes lmX12_410 ⟨nle rfl, nle rfl⟩ hx.o ⟨by decide, rfl⟩ (ex_hourGoes hx hm ok) npmX12_hourGoes rfl (nle rfl) ⟨nle rfl, nle rfl⟩ dX12_missed_47 ?_
              rintro _ m2 ⟨rfl, cB, e2⟩
              rw [ei, si, li] at e2
              refine go_c0 ?_
              refine gn_inc (i := 4) (a := i) (q := 1) rfl dX12_missed_50 (nle rfl) rfl ?_
              refine go_goto (tgt := 29) dX12_missed_53 (by decide) ?_
              rw [show cnt (fun i => svS P (hrN P (-1) P.se i (cp 105 (gI m 315) (gI m 316))) i0 = nI 0) i + 1 = cnt (fun i => svS P (hrN P (-1) P.se i (cp 105 (gI m 315) (gI m 316))) i0 = nI 0) (i + 1) from (cnt_t (show svS P (hrN P (-1) P.se i (cp 105 (gI m 315) (gI m 316))) i0 = nI 0 from h40.trans nI_0.symm)).symm]
              exact ih _ (c1.tr cB.1) e2 (cB.2.1.trans si) (cB.2.2.trans li)
        refine go_aload_n (q := 0) (i := 0) rfl rfl dX12_missed_0 ?_
        refine go_iload_n (q := 1) (i := 1) rfl rfl dX12_missed_1 ?_
        refine go_callV okmX12_isUse lmX12_429 ⟨nle rfl, nle rfl⟩ hx.o ⟨by decide, rfl⟩ (ex_isUse hx hm) npmX12_isUse rfl (nle rfl) ⟨nle rfl, nle rfl⟩ dX12_missed_2 ?_
        rintro _ mz ⟨rfl, hz⟩
        subst mz
        rw [hu]
        refine go_c1 ?_
        refine gz_eq (by omega) (tgt := 18) dX12_missed_5 (by decide) (fun h5 => by exfalso; omega) (fun h5 => ?_)
        refine go_iload_n (q := 2) (i := 2) rfl rfl dX12_missed_8 ?_
        refine go_iconst (v := nI 1) (by decide) dX12_missed_9 ?_
        refine go_bipush (v := nI 72) (by decide) dX12_missed_10 ?_
        refine go_callS okmX12_in lmX12_361 ⟨nle rfl, nle rfl⟩ (ex_in) npmX12_in rfl (nle rfl) ⟨nle rfl, nle rfl⟩ dX12_missed_12 ?_
        rintro _ mz ⟨rfl, hz⟩
        subst mz
        rw [in1_j hj1 hj (by decide)]
        refine go_c1 ?_
        refine gz_ne (by omega) (tgt := 20) dX12_missed_15 (by decide) (fun h15 => ?_) (fun h15 => by exfalso; omega)
        refine go_aload_n (q := 0) (i := 0) rfl rfl dX12_missed_20 ?_
        refine go_callV okmX12_copies lmX12_413 ⟨nle rfl, nle rfl⟩ hx.o ⟨by decide, rfl⟩ (ex_copies hx hm) npmX12_copies rfl (nle rfl) ⟨nle rfl, nle rfl⟩ dX12_missed_21 ?_
        rintro _ m1 ⟨rfl, c1, e1, s1, l1, -⟩
        have hx := c1.wf hx
        have hm := c1.md hm
        refine go_c0 ?_
        refine go_iconst (v := nI 0) (by decide) dX12_missed_24 ?_
        refine go_istore_n (q := 3) (i := 3) rfl dX12_missed_25 (nle rfl) (nle rfl) ?_
        refine go_iconst (v := nI 0) (by decide) dX12_missed_26 ?_
        refine go_istore (i := 4) dX12_missed_27 (nle rfl) (nle rfl) ?_
        exact key 0 (Nat.zero_le _) m1 c1 e1 s1 l1
