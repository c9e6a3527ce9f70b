def laS (s : Nat) : Int32 := if s = 40 then -1 else nI s
theorem hrM_la {P : Pl} {lo : Int32} {s : Nat} {r : Nat → Int32} : hrM P (laS s) lo r = hrM P (nI s) lo r := by
  unfold laS
  by_cases e : s = 40
  · rw [if_pos e, e, hrM_40]
  · rw [if_neg e]
theorem hrN_la {P : Pl} {lo : Int32} {s : Nat} {r : Nat → Int32} : ∀ n, hrN P (laS s) lo n r = hrN P (nI s) lo n r
  | 0 => rfl
  | n + 1 => by
    show hrM P (laS s) lo (hrN P (laS s) lo n r) = hrM P (nI s) lo (hrN P (nI s) lo n r)
    rw [hrN_la n, hrM_la]
theorem Er.tr {a b c : Nat → Int32} (h : Er a b) (k : Er b c) : Er a c := fun i hi => (h i hi).trans (k i hi)
theorem lv_iff {P : Pl} {t k : Nat} {tc th tf : Nat → Nat} {s : Nat} (hTO : TdO P t tc th tf) (hk : k ≤ t) : lvS P k tc th tf s ↔ (s = 40 ∨ ld P s) ∧ ∀ j, j < k → lkR P s (th j) (tc j) = nI (tf j) :=
  ⟨fun z => ⟨z.1, fun j hj => z.2 j hj (by have := (hTO.2 j (by omega)).2.2.1; omega)⟩, fun z => ⟨z.1, fun j hj _ => z.2 j hj⟩⟩
theorem ic_ld {P : Pl} (ok : PlOk P) {s : Nat} (hs : s < 40) : icS P (nI (s % 8)) (nI (s / 8)) = pit (ld P s) (nI 1) (nI 0) := by
  have hw := ok.1
  have hr := ok.2.1
  by_cases l : ld P s
  · rw [pit_t l]; exact ic_1 ok l.1 l.2
  · rw [pit_f l]
    by_cases a : s % 8 < P.wd
    · exact ic_y (in_0 (fun z => l ⟨a, z⟩) (by omega) (by omega))
    · exact ic_x (in_0 a (by omega) (by omega))
set_option maxRecDepth 100000 in
set_option maxHeartbeats 4000000 in
theorem ex_mayLeak {m : Me} {P : Pl} {lv : Nat} (hx : Wf12 m.1 (gR m)) (hm : MdC m P lv) (ok : PlOk P) {s : Nat} (hs : s ≤ 40) : Ev mX12_mayLeak [.ref 274, .int (nI s)] m (fun o m' => o = some (.int (pit (s = 40 ∨ ld P s) (nI 1) (nI 0))) ∧ m' = m) := by
  refine ⟨plmX12_mayLeak, nle rfl, ?_⟩
  refine go_iload_n (q := 1) (i := 1) rfl rfl dX12_mayLeak_0 ?_
  refine go_bipush (v := nI 40) (by decide) dX12_mayLeak_1 ?_
  refine gn_eq (by omega) (by omega) (tgt := 21) dX12_mayLeak_3 (by decide) (fun h3 => ?_) (fun h3 => ?_)
  · skip
    refine go_iconst (v := nI 1) (by decide) dX12_mayLeak_21 ?_
    refine go_goto (tgt := 26) dX12_mayLeak_22 (by decide) ?_
    refine go_zret rfl (by decide) ⟨Nat.zero_le _, Nat.zero_le _⟩ dX12_mayLeak_26 ?_
    refine ⟨?_, rfl⟩
    rw [pit_t (Or.inl h3)]
  · skip
    refine go_aload_n (q := 0) (i := 0) rfl rfl dX12_mayLeak_6 ?_
    refine go_iload_n (q := 1) (i := 1) rfl rfl dX12_mayLeak_7 ?_
    refine go_bipush (v := nI 8) (by decide) dX12_mayLeak_8 ?_
    refine gn_rem (by omega) (by omega) (by omega) dX12_mayLeak_10 ?_
    refine go_iload_n (q := 1) (i := 1) rfl rfl dX12_mayLeak_11 ?_
    refine go_bipush (v := nI 8) (by decide) dX12_mayLeak_12 ?_
    refine gn_div (by omega) (by omega) (by omega) dX12_mayLeak_14 ?_
    refine go_callV okmX12_isCell lmX12_394 ⟨nle rfl, nle rfl⟩ hx.o ⟨by decide, rfl⟩ (ex_isCell hx hm) npmX12_isCell rfl (nle rfl) ⟨nle rfl, nle rfl⟩ dX12_mayLeak_15 ?_
    rintro _ mz ⟨rfl, hz⟩
    subst mz
    rw [ic_ld ok (by omega)]
    refine go_c1 ?_
    refine go_if_eq (tgt := 25) dX12_mayLeak_18 (by decide) (fun h18 => ?_) (fun h18 => ?_)
    · skip
      refine go_iconst (v := nI 0) (by decide) dX12_mayLeak_25 ?_
      refine go_zret rfl (by decide) ⟨Nat.zero_le _, Nat.zero_le _⟩ dX12_mayLeak_26 ?_
      refine ⟨?_, rfl⟩
      rw [pit_f (fun z => z.elim h3 (pz.mp h18))]
    · skip
      refine go_iconst (v := nI 1) (by decide) dX12_mayLeak_21 ?_
      refine go_goto (tgt := 26) dX12_mayLeak_22 (by decide) ?_
      refine go_zret rfl (by decide) ⟨Nat.zero_le _, Nat.zero_le _⟩ dX12_mayLeak_26 ?_
      refine ⟨?_, rfl⟩
      rw [pit_t (Or.inr (pnz h18))]
set_option maxRecDepth 100000 in
set_option maxHeartbeats 8000000 in
theorem ex_isSo {m : Me} {P : Pl} {lv : Nat} (hx : Wf12 m.1 (gR m)) (hm : MdC m P lv) (ok : PlOk P) {s : Nat} (hs : s ≤ 40) {t k : Nat} {tc th tf : Nat → Nat} (hT : Td m 322 323 324 t tc th tf) (hTO : TdO P t tc th tf) (hk : k ≤ t) : Ev mX12_isSo [.ref 274, .int (nI s), .int (nI k)] m (fun o m' => o = some (.int (pit (∀ j, j < k → lkR P s (th j) (tc j) = nI (tf j)) (nI 1) (nI 0))) ∧ Mo m m') := by
  refine ⟨plmX12_isSo, nle rfl, ?_⟩
  have hw8 := ok.1
  have hr5 := ok.2.1
  have hlv := hm.lv
  have hx0 := hx
  have hm0 := hm
  have hk20 := hTO.1
  have key : ∀ h, h ≤ 25 → ∀ mi : Me, Mo m mi → gI mi 274 60 = P.se → gI mi 274 61 = laS s → Er (gI mi 316) (lkR P s h) → (∀ q, q < k → th q < h → lkR P s (th q) (tc q) = nI (tf q)) → ∀ x4 : Option Value, Go mX12_isSo (fun o m' => o = some (.int (pit (∀ j, j < k → lkR P s (th j) (tc j) = nI (tf j)) (nI 1) (nI 0))) ∧ Mo m m') 21 [some (.ref 274), some (.int (nI s)), some (.int (nI k)), some (.int (nI h)), x4] [] mi 0 0 := by
    refine loop_up 25 ?_ ?_
    · intro mi c1 si li hE ha x4
      have hx := c1.wf hx0
      have hm := c1.md hm0
      have hTi := hT.ch c1.1 (by omega) (by omega) (by omega)
      refine go_iload_n (q := 3) (i := 3) rfl rfl dX12_isSo_21 ?_
      refine go_bipush (v := nI 24) (by decide) dX12_isSo_22 ?_
      refine gn_gt (by omega) (by omega) (tgt := 87) dX12_isSo_24 (by decide) (fun h24 => ?_) (fun h24 => by exfalso; omega)
      refine go_iconst (v := nI 1) (by decide) dX12_isSo_87 ?_
      refine go_zret rfl (by decide) ⟨Nat.zero_le _, Nat.zero_le _⟩ dX12_isSo_88 ?_
      refine ⟨?_, c1⟩
      rw [pit_t (fun q hq => ha q hq (by have := (hTO.2 q (by omega)).2.2.1; omega))]
    · intro h hh ihh mi c1 si li hE ha x4
      have hx := c1.wf hx0
      have hm := c1.md hm0
      have hTi := hT.ch c1.1 (by omega) (by omega) (by omega)
      refine go_iload_n (q := 3) (i := 3) rfl rfl dX12_isSo_21 ?_
      refine go_bipush (v := nI 24) (by decide) dX12_isSo_22 ?_
      refine gn_gt (by omega) (by omega) (tgt := 87) dX12_isSo_24 (by decide) (fun h24 => by exfalso; omega) (fun h24 => ?_)
      refine go_iconst (v := nI 0) (by decide) dX12_isSo_27 ?_
      refine go_istore (i := 4) dX12_isSo_28 (nle rfl) (nle rfl) ?_
      have keyj : ∀ i, i ≤ k → (∀ q, q < i → th q = h → lkR P s h (tc q) = nI (tf q)) → Go mX12_isSo (fun o m' => o = some (.int (pit (∀ j, j < k → lkR P s (th j) (tc j) = nI (tf j)) (nI 1) (nI 0))) ∧ Mo m m') 30 [some (.ref 274), some (.int (nI s)), some (.int (nI k)), some (.int (nI h)), some (.int (nI i))] [] mi 0 0 := by
        refine loop_up k ?_ ?_
        · intro hn
          skip
          refine go_iload (i := 4) rfl dX12_isSo_30 ?_
          refine go_iload_n (q := 2) (i := 2) rfl rfl dX12_isSo_32 ?_
          refine gn_ge (by omega) (by omega) (tgt := 77) dX12_isSo_33 (by decide) (fun h33 => ?_) (fun h33 => by exfalso; omega)
          refine go_aload_n (q := 0) (i := 0) rfl rfl dX12_isSo_77 ?_
          refine go_callV okmX12_hourGoes lmX12_410 ⟨nle rfl, nle rfl⟩ hx.o ⟨by decide, rfl⟩ (ex_hourGoes hx hm ok) npmX12_hourGoes rfl (nle rfl) ⟨nle rfl, nle rfl⟩ dX12_isSo_78 ?_
          rintro _ m2 ⟨rfl, cB, e2⟩
          rw [si, li] at e2
          refine go_c0 ?_
          refine gn_inc (i := 3) (a := h) (q := 1) rfl dX12_isSo_81 (nle rfl) rfl ?_
          refine go_goto (tgt := 21) dX12_isSo_84 (by decide) ?_
          refine ihh _ (c1.tr cB.1) (cB.2.1.trans si) (cB.2.2.trans li) ?_ (fun q hq z => ?_) _
          · rw [e2, hrM_la]
            exact hrM_c ok hE
          · by_cases e : th q = h
            · have := hn q hq e
              rw [e]; exact this
            · exact ha q hq (by omega)
        · intro i hi ih hn
          have hci := (hTO.2 i (by omega)).1
          have hhi := (hTO.2 i (by omega)).2.2.1
          have hfi := (hTO.2 i (by omega)).2.2.2
          refine go_iload (i := 4) rfl dX12_isSo_30 ?_
          refine go_iload_n (q := 2) (i := 2) rfl rfl dX12_isSo_32 ?_
          refine gn_ge (by omega) (by omega) (tgt := 77) dX12_isSo_33 (by decide) (fun h33 => by exfalso; omega) (fun h33 => ?_)
          refine go_aload_n (q := 0) (i := 0) rfl rfl dX12_isSo_36 ?_
          refine go_getR lf12_164 rfl hx.o hx.r70 dX12_isSo_37 ?_
          refine go_iload (i := 4) rfl dX12_isSo_40 ?_
          refine go_iald (j := i) hx.i70 (by omega) (by first | decide | omega) rfl dX12_isSo_42 ?_
          rw [(hTi i (by omega)).2.1]
          refine go_iload_n (q := 3) (i := 3) rfl rfl dX12_isSo_43 ?_
          refine gn_ne (by omega) (by omega) (tgt := 71) dX12_isSo_44 (by decide) (fun h44 => ?_) (fun h44 => ?_)
          · skip
            refine gn_inc (i := 4) (a := i) (q := 1) rfl dX12_isSo_71 (nle rfl) rfl ?_
            refine go_goto (tgt := 30) dX12_isSo_74 (by decide) ?_
            refine ih (fun q hq e => ?_)
            by_cases z : q = i
            · rw [z] at e ⊢
              exact absurd e h44
            · exact hn q (by omega) e
          · skip
            refine go_aload_n (q := 0) (i := 0) rfl rfl dX12_isSo_47 ?_
            refine go_getR lf12_143 rfl hx.o hx.r59 dX12_isSo_48 ?_
            refine go_aload_n (q := 0) (i := 0) rfl rfl dX12_isSo_51 ?_
            refine go_getR lf12_161 rfl hx.o hx.r69 dX12_isSo_52 ?_
            refine go_iload (i := 4) rfl dX12_isSo_55 ?_
            refine go_iald (j := i) hx.i69 (by omega) (by first | decide | omega) rfl dX12_isSo_57 ?_
            rw [(hTi i (by omega)).1]
            refine go_iald (j := ((tc i))) hx.i59 (by omega) (by first | decide | omega) rfl dX12_isSo_58 ?_
            rw [hE (tc i) (by omega)]
            refine go_aload_n (q := 0) (i := 0) rfl rfl dX12_isSo_59 ?_
            refine go_getR lf12_167 rfl hx.o hx.r71 dX12_isSo_60 ?_
            refine go_iload (i := 4) rfl dX12_isSo_63 ?_
            refine go_iald (j := i) hx.i71 (by omega) (by first | decide | omega) rfl dX12_isSo_65 ?_
            rw [(hTi i (by omega)).2.2]
            refine go_icmp_eq (tgt := 71) dX12_isSo_66 (by decide) (fun h66 => ?_) (fun h66 => ?_)
            · skip
              refine gn_inc (i := 4) (a := i) (q := 1) rfl dX12_isSo_71 (nle rfl) rfl ?_
              refine go_goto (tgt := 30) dX12_isSo_74 (by decide) ?_
              refine ih (fun q hq e => ?_)
              by_cases z : q = i
              · rw [z] at e ⊢
                exact h66
              · exact hn q (by omega) e
            · skip
              refine go_iconst (v := nI 0) (by decide) dX12_isSo_69 ?_
              refine go_zret rfl (by decide) ⟨Nat.zero_le _, Nat.zero_le _⟩ dX12_isSo_70 ?_
              refine ⟨?_, c1⟩
              rw [pit_f (fun z => h66 (by have := z i hi; rw [h44] at this; exact this))]
      exact keyj 0 (Nat.zero_le _) (fun q hq => absurd hq (Nat.not_lt_zero q))
  refine go_aload_n (q := 0) (i := 0) rfl rfl dX12_isSo_0 ?_
  refine go_callV okmX12_begins lmX12_187 ⟨nle rfl, nle rfl⟩ hx.o ⟨by decide, rfl⟩ (ex_begins hx hm ok) npmX12_begins rfl (nle rfl) ⟨nle rfl, nle rfl⟩ dX12_isSo_1 ?_
  rintro _ m1 ⟨rfl, c1, e1, s1, l1, -⟩
  have hx := c1.wf hx
  have hm := c1.md hm
  refine go_c0 ?_
  refine go_aload_n (q := 0) (i := 0) rfl rfl dX12_isSo_4 ?_
  refine go_iload_n (q := 1) (i := 1) rfl rfl dX12_isSo_5 ?_
  refine go_bipush (v := nI 40) (by decide) dX12_isSo_6 ?_
  refine gn_ne (by omega) (by omega) (tgt := 15) dX12_isSo_8 (by decide) (fun h8 => ?_) (fun h8 => ?_)
  · skip
    refine go_iload_n (q := 1) (i := 1) rfl rfl dX12_isSo_15 ?_
    refine go_putI lf12_368 rfl (Or.inl rfl) hx.o dX12_isSo_16 ?_
    generalize hmA : sI m1 274 _ = mA
    have cA : Mo m mA := c1.tr ⟨by rw [← hmA]; exact Ch.I (Or.inl rfl), fun k a b c => by rw [← hmA, gI_s, upd_ne c]⟩
    have sA : gI mA 274 60 = P.se := by rw [← hmA, gI_s, upd_ne (by decide)]; exact s1
    have lA : gI mA 274 61 = laS s := by rw [← hmA, gI_s, upd_eq]; exact ((if_neg h8).symm)
    have eA : Er (gI mA 316) (lkR P s 0) := fun q hq => by rw [← hmA, gI_n (by decide)]; exact e1 q hq
    refine go_iconst (v := nI 0) (by decide) dX12_isSo_19 ?_
    refine go_istore_n (q := 3) (i := 3) rfl dX12_isSo_20 (nle rfl) (nle rfl) ?_
    exact key 0 (Nat.zero_le _) mA cA sA lA eA (fun q hq z => absurd z (Nat.not_lt_zero _)) _
  · skip
    refine go_iconst (v := -1) (by decide) dX12_isSo_11 ?_
    refine go_goto (tgt := 16) dX12_isSo_12 (by decide) ?_
    refine go_putI lf12_368 rfl (Or.inl rfl) hx.o dX12_isSo_16 ?_
    generalize hmA : sI m1 274 _ = mA
    have cA : Mo m mA := c1.tr ⟨by rw [← hmA]; exact Ch.I (Or.inl rfl), fun k a b c => by rw [← hmA, gI_s, upd_ne c]⟩
    have sA : gI mA 274 60 = P.se := by rw [← hmA, gI_s, upd_ne (by decide)]; exact s1
    have lA : gI mA 274 61 = laS s := by rw [← hmA, gI_s, upd_eq]; exact ((if_pos h8).symm)
    have eA : Er (gI mA 316) (lkR P s 0) := fun q hq => by rw [← hmA, gI_n (by decide)]; exact e1 q hq
    refine go_iconst (v := nI 0) (by decide) dX12_isSo_19 ?_
    refine go_istore_n (q := 3) (i := 3) rfl dX12_isSo_20 (nle rfl) (nle rfl) ?_
    exact key 0 (Nat.zero_le _) mA cA sA lA eA (fun q hq z => absurd z (Nat.not_lt_zero _)) _
set_option maxRecDepth 100000 in
set_option maxHeartbeats 8000000 in
theorem ex_leaks {m : Me} {P : Pl} {lv : Nat} (hx : Wf12 m.1 (gR m)) (hm : MdC m P lv) (ok : PlOk P) {t : Nat} {tc th tf : Nat → Nat} (hT : Td m 322 323 324 t tc th tf) (hTO : TdO P t tc th tf) (h3 : gI m 274 68 = nI t) {v : Int32} : Ev mX12_leaks [.ref 274, .int v] m (fun o m' => RfK m m' ∧ ∃ q, o = some (.int q) ∧ lekS P t tc th tf v q) := by
  refine ⟨plmX12_leaks, nle rfl, ?_⟩
  have ht := hTO.1
  have hx0 := hx
  have hm0 := hm
  rcases in_c v (N := t) (by omega) with hv | ⟨k, hk, rfl, hv⟩
  · skip
    refine go_iload_n (q := 1) (i := 1) rfl rfl dX12_leaks_0 ?_
    refine go_iconst (v := nI 0) (by decide) dX12_leaks_1 ?_
    refine go_aload_n (q := 0) (i := 0) rfl rfl dX12_leaks_2 ?_
    refine go_getI lf12_289 rfl hx.o dX12_leaks_3 ?_
    rw [h3]
    refine go_callS okmX12_in lmX12_361 ⟨nle rfl, nle rfl⟩ (ex_in) npmX12_in rfl (nle rfl) ⟨nle rfl, nle rfl⟩ dX12_leaks_6 ?_
    rintro _ mz ⟨rfl, hz⟩
    subst mz
    rw [hv]
    refine go_c1 ?_
    refine gz_ne (by omega) (tgt := 14) dX12_leaks_9 (by decide) (fun h9 => by exfalso; omega) (fun h9 => ?_)
    refine go_iconst (v := -1) (by decide) dX12_leaks_12 ?_
    refine go_iret rfl ⟨Nat.zero_le _, Nat.zero_le _⟩ dX12_leaks_13 ?_
    exact ⟨RfK.rf, _, rfl, Or.inl ⟨hv, rfl⟩⟩
  · skip
    have key : ∀ i, i ≤ 41 → ∀ mi : Me, Mo m mi → Go mX12_leaks (fun o m' => RfK m m' ∧ ∃ q, o = some (.int q) ∧ lekS P t tc th tf (nI k) q) 18 [some (.ref 274), some (.int (nI k)), some (.int (nI (cnt (lvS P k tc th tf) i))), some (.int (nI i))] [] mi 0 0 := by
      refine loop_up 41 ?_ ?_
      · intro mi c1
        have hx := c1.wf hx0
        have hm := c1.md hm0
        have hTi := hT.ch c1.1 (by omega) (by omega) (by omega)
        have hcl := cnt_le (p := lvS P k tc th tf) 41
        refine go_iload_n (q := 3) (i := 3) rfl rfl dX12_leaks_18 ?_
        refine go_bipush (v := nI 40) (by decide) dX12_leaks_19 ?_
        refine gn_gt (by omega) (by omega) (tgt := 50) dX12_leaks_21 (by decide) (fun h21 => ?_) (fun h21 => by exfalso; omega)
        refine go_iload_n (q := 2) (i := 2) rfl rfl dX12_leaks_50 ?_
        refine go_iret rfl ⟨Nat.zero_le _, Nat.zero_le _⟩ dX12_leaks_51 ?_
        exact ⟨RfK.of c1, _, rfl, Or.inr ⟨k, hk, rfl, rfl⟩⟩
      · intro i hi ih mi c1
        have hx := c1.wf hx0
        have hm := c1.md hm0
        have hTi := hT.ch c1.1 (by omega) (by omega) (by omega)
        have hcl := cnt_le (p := lvS P k tc th tf) i
        refine go_iload_n (q := 3) (i := 3) rfl rfl dX12_leaks_18 ?_
        refine go_bipush (v := nI 40) (by decide) dX12_leaks_19 ?_
        refine gn_gt (by omega) (by omega) (tgt := 50) dX12_leaks_21 (by decide) (fun h21 => by exfalso; omega) (fun h21 => ?_)
        refine go_aload_n (q := 0) (i := 0) rfl rfl dX12_leaks_24 ?_
        refine go_iload_n (q := 3) (i := 3) rfl rfl dX12_leaks_25 ?_
        refine go_callV okmX12_mayLeak lmX12_479 ⟨nle rfl, nle rfl⟩ hx.o ⟨by decide, rfl⟩ (ex_mayLeak hx hm ok (s := i) (by omega)) npmX12_mayLeak rfl (nle rfl) ⟨nle rfl, nle rfl⟩ dX12_leaks_26 ?_
        rintro _ mz ⟨rfl, hz⟩
        subst mz
        refine go_c1 ?_
        refine go_if_eq (tgt := 44) dX12_leaks_29 (by decide) (fun h29 => ?_) (fun h29 => ?_)
        · skip
          refine gn_inc (i := 3) (a := i) (q := 1) rfl dX12_leaks_44 (nle rfl) rfl ?_
          refine go_goto (tgt := 18) dX12_leaks_47 (by decide) ?_
          rw [show (cnt (lvS P k tc th tf) i) = (cnt (lvS P k tc th tf) (i + 1)) from (cnt_f (fun z => pz.mp h29 ((lv_iff hTO hk).mp z).1)).symm]
          exact ih _ c1
        · skip
          refine go_aload_n (q := 0) (i := 0) rfl rfl dX12_leaks_32 ?_
          refine go_iload_n (q := 3) (i := 3) rfl rfl dX12_leaks_33 ?_
          refine go_iload_n (q := 1) (i := 1) rfl rfl dX12_leaks_34 ?_
          refine go_callV okmX12_isSo lmX12_482 ⟨nle rfl, nle rfl⟩ hx.o ⟨by decide, rfl⟩ (ex_isSo hx hm ok (s := i) (by omega) hTi hTO hk) npmX12_isSo rfl (nle rfl) ⟨nle rfl, nle rfl⟩ dX12_leaks_35 ?_
          rintro _ m2 ⟨rfl, c2⟩
          have c12 := c1.tr c2
          have hx := c2.wf hx
          have hm := c2.md hm
          refine go_c1 ?_
          refine go_if_eq (tgt := 44) dX12_leaks_38 (by decide) (fun h38 => ?_) (fun h38 => ?_)
          · skip
            refine gn_inc (i := 3) (a := i) (q := 1) rfl dX12_leaks_44 (nle rfl) rfl ?_
            refine go_goto (tgt := 18) dX12_leaks_47 (by decide) ?_
            rw [show (cnt (lvS P k tc th tf) i) = (cnt (lvS P k tc th tf) (i + 1)) from (cnt_f (fun z => pz.mp h38 ((lv_iff hTO hk).mp z).2)).symm]
            exact ih _ c12
          · skip
            refine gn_inc (i := 2) (a := (cnt (lvS P k tc th tf) i)) (q := 1) rfl dX12_leaks_41 (nle rfl) rfl ?_
            refine gn_inc (i := 3) (a := i) (q := 1) rfl dX12_leaks_44 (nle rfl) rfl ?_
            refine go_goto (tgt := 18) dX12_leaks_47 (by decide) ?_
            rw [show (cnt (lvS P k tc th tf) i) + 1 = (cnt (lvS P k tc th tf) (i + 1)) from (cnt_t ((lv_iff hTO hk).mpr ⟨pnz h29, pnz h38⟩)).symm]
            exact ih _ c12
    refine go_iload_n (q := 1) (i := 1) rfl rfl dX12_leaks_0 ?_
    refine go_iconst (v := nI 0) (by decide) dX12_leaks_1 ?_
    refine go_aload_n (q := 0) (i := 0) rfl rfl dX12_leaks_2 ?_
    refine go_getI lf12_289 rfl hx.o dX12_leaks_3 ?_
    rw [h3]
    refine go_callS okmX12_in lmX12_361 ⟨nle rfl, nle rfl⟩ (ex_in) npmX12_in rfl (nle rfl) ⟨nle rfl, nle rfl⟩ dX12_leaks_6 ?_
    rintro _ mz ⟨rfl, hz⟩
    subst mz
    rw [hv]
    refine go_c1 ?_
    refine gz_ne (by omega) (tgt := 14) dX12_leaks_9 (by decide) (fun h9 => ?_) (fun h9 => by exfalso; omega)
    refine go_iconst (v := nI 0) (by decide) dX12_leaks_14 ?_
    refine go_istore_n (q := 2) (i := 2) rfl dX12_leaks_15 (nle rfl) (nle rfl) ?_
    refine go_iconst (v := nI 0) (by decide) dX12_leaks_16 ?_
    refine go_istore_n (q := 3) (i := 3) rfl dX12_leaks_17 (nle rfl) (nle rfl) ?_
    exact key 0 (Nat.zero_le _) m Mo.rf
set_option maxRecDepth 100000 in
set_option maxHeartbeats 8000000 in
theorem ex_sure {m : Me} {P : Pl} {lv : Nat} (hx : Wf12 m.1 (gR m)) (hm : MdC m P lv) (ok : PlOk P) {t : Nat} {tc th tf : Nat → Nat} (hT : Td m 322 323 324 t tc th tf) (hTO : TdO P t tc th tf) (h3 : gI m 274 68 = nI t) {v : Int32} : Ev mX12_sure [.ref 274, .int v] m (fun o m' => RfK m m' ∧ ∃ q, o = some (.int q) ∧ SuR P t tc th tf v q) := by
  refine ⟨plmX12_sure, nle rfl, ?_⟩
  have ht := hTO.1
  have hx0 := hx
  have hm0 := hm
  rcases in_c v (N := t) (by omega) with hv | ⟨k, hk, rfl, hv⟩
  · skip
    refine go_iload_n (q := 1) (i := 1) rfl rfl dX12_sure_0 ?_
    refine go_iconst (v := nI 0) (by decide) dX12_sure_1 ?_
    refine go_aload_n (q := 0) (i := 0) rfl rfl dX12_sure_2 ?_
    refine go_getI lf12_289 rfl hx.o dX12_sure_3 ?_
    rw [h3]
    refine go_callS okmX12_in lmX12_361 ⟨nle rfl, nle rfl⟩ (ex_in) npmX12_in rfl (nle rfl) ⟨nle rfl, nle rfl⟩ dX12_sure_6 ?_
    rintro _ mz ⟨rfl, hz⟩
    subst mz
    rw [hv]
    refine go_c1 ?_
    refine gz_ne (by omega) (tgt := 14) dX12_sure_9 (by decide) (fun h9 => by exfalso; omega) (fun h9 => ?_)
    refine go_iconst (v := -1) (by decide) dX12_sure_12 ?_
    refine go_iret rfl ⟨Nat.zero_le _, Nat.zero_le _⟩ dX12_sure_13 ?_
    exact ⟨RfK.rf, _, rfl, Or.inl ⟨hv, rfl⟩⟩
  · skip
    have key : ∀ i, i ≤ 41 → ∀ (mi : Me) (b : Int32), Mo m mi → (((cnt (lvS P k tc th tf) i) = 0 ∧ b = -2) ∨ ∃ s, s < i ∧ lvS P k tc th tf s ∧ b = fuS s) → Go mX12_sure (fun o m' => RfK m m' ∧ ∃ q, o = some (.int q) ∧ SuR P t tc th tf (nI k) q) 22 [some (.ref 274), some (.int (nI k)), some (.int (nI (cnt (lvS P k tc th tf) i))), some (.int b), some (.int (nI i))] [] mi 0 0 := by
      refine loop_up 41 ?_ ?_
      · intro mi b c1 hI
        have hx := c1.wf hx0
        have hm := c1.md hm0
        have hTi := hT.ch c1.1 (by omega) (by omega) (by omega)
        have hcl := cnt_le (p := lvS P k tc th tf) 41
        refine go_iload (i := 4) rfl dX12_sure_22 ?_
        refine go_bipush (v := nI 40) (by decide) dX12_sure_24 ?_
        refine gn_gt (by omega) (by omega) (tgt := 87) dX12_sure_26 (by decide) (fun h26 => ?_) (fun h26 => by exfalso; omega)
        refine go_iload_n (q := 2) (i := 2) rfl rfl dX12_sure_87 ?_
        refine go_iconst (v := nI 1) (by decide) dX12_sure_88 ?_
        refine gn_ne (by omega) (by omega) (tgt := 96) dX12_sure_89 (by decide) (fun h89 => ?_) (fun h89 => ?_)
        · skip
          refine go_bipush (v := -2) (by decide) dX12_sure_96 ?_
          refine go_iret rfl ⟨Nat.zero_le _, Nat.zero_le _⟩ dX12_sure_98 ?_
          exact ⟨RfK.of c1, _, rfl, Or.inr ⟨k, hk, rfl, Or.inl ⟨h89, rfl⟩⟩⟩
        · skip
          refine go_iload_n (q := 3) (i := 3) rfl rfl dX12_sure_92 ?_
          refine go_goto (tgt := 98) dX12_sure_93 (by decide) ?_
          refine go_iret rfl ⟨Nat.zero_le _, Nat.zero_le _⟩ dX12_sure_98 ?_
          refine ⟨RfK.of c1, _, rfl, Or.inr ⟨k, hk, rfl, Or.inr ⟨h89, ?_⟩⟩⟩
          rcases hI with ⟨z, -⟩ | ⟨s, hs, ls, e⟩
          · rw [h89] at z; exact absurd z (by decide)
          · exact ⟨s, hs, ls, e⟩
      · intro i hi ih mi b c1 hI
        have hx := c1.wf hx0
        have hm := c1.md hm0
        have hTi := hT.ch c1.1 (by omega) (by omega) (by omega)
        have hcl := cnt_le (p := lvS P k tc th tf) i
        refine go_iload (i := 4) rfl dX12_sure_22 ?_
        refine go_bipush (v := nI 40) (by decide) dX12_sure_24 ?_
        refine gn_gt (by omega) (by omega) (tgt := 87) dX12_sure_26 (by decide) (fun h26 => by exfalso; omega) (fun h26 => ?_)
        refine go_aload_n (q := 0) (i := 0) rfl rfl dX12_sure_29 ?_
        refine go_iload (i := 4) rfl dX12_sure_30 ?_
        refine go_callV okmX12_mayLeak lmX12_479 ⟨nle rfl, nle rfl⟩ hx.o ⟨by decide, rfl⟩ (ex_mayLeak hx hm ok (s := i) (by omega)) npmX12_mayLeak rfl (nle rfl) ⟨nle rfl, nle rfl⟩ dX12_sure_32 ?_
        rintro _ mz ⟨rfl, hz⟩
        subst mz
        refine go_c1 ?_
        refine go_if_eq (tgt := 81) dX12_sure_35 (by decide) (fun h35 => ?_) (fun h35 => ?_)
        · skip
          refine gn_inc (i := 4) (a := i) (q := 1) rfl dX12_sure_81 (nle rfl) rfl ?_
          refine go_goto (tgt := 22) dX12_sure_84 (by decide) ?_
          rw [show (cnt (lvS P k tc th tf) i) = (cnt (lvS P k tc th tf) (i + 1)) from (cnt_f (fun z => pz.mp h35 ((lv_iff hTO hk).mp z).1)).symm]
          exact ih _ _ c1 (hI.imp (fun z => ⟨by rw [show (cnt (lvS P k tc th tf) (i + 1)) = (cnt (lvS P k tc th tf) i) from cnt_f (fun z => pz.mp h35 ((lv_iff hTO hk).mp z).1)]; exact z.1, z.2⟩) (fun ⟨s, a, b⟩ => ⟨s, by omega, b⟩))
        · skip
          refine go_aload_n (q := 0) (i := 0) rfl rfl dX12_sure_38 ?_
          refine go_iload (i := 4) rfl dX12_sure_39 ?_
          refine go_iload_n (q := 1) (i := 1) rfl rfl dX12_sure_41 ?_
          refine go_callV okmX12_isSo lmX12_482 ⟨nle rfl, nle rfl⟩ hx.o ⟨by decide, rfl⟩ (ex_isSo hx hm ok (s := i) (by omega) hTi hTO hk) npmX12_isSo rfl (nle rfl) ⟨nle rfl, nle rfl⟩ dX12_sure_42 ?_
          rintro _ m2 ⟨rfl, c2⟩
          have c12 := c1.tr c2
          have hx := c2.wf hx
          have hm := c2.md hm
          refine go_c1 ?_
          refine go_if_ne (tgt := 51) dX12_sure_45 (by decide) (fun h45 => ?_) (fun h45 => ?_)
          · skip
            refine gn_inc (i := 2) (a := (cnt (lvS P k tc th tf) i)) (q := 1) rfl dX12_sure_51 (nle rfl) rfl ?_
            refine go_iload (i := 4) rfl dX12_sure_54 ?_
            refine go_bipush (v := nI 40) (by decide) dX12_sure_56 ?_
            refine gn_ne (by omega) (by omega) (tgt := 66) dX12_sure_58 (by decide) (fun h58 => ?_) (fun h58 => ?_)
            · skip
              refine go_bipush (v := nI 10) (by decide) dX12_sure_66 ?_
              refine go_iload (i := 4) rfl dX12_sure_68 ?_
              refine go_bipush (v := nI 8) (by decide) dX12_sure_70 ?_
              refine gn_div (by omega) (by omega) (by omega) dX12_sure_72 ?_
              refine gn_mul dX12_sure_73 ?_
              refine go_iload (i := 4) rfl dX12_sure_74 ?_
              refine go_bipush (v := nI 8) (by decide) dX12_sure_76 ?_
              refine gn_rem (by omega) (by omega) (by omega) dX12_sure_78 ?_
              refine gn_add dX12_sure_79 ?_
              refine go_istore_n (q := 3) (i := 3) rfl dX12_sure_80 (nle rfl) (nle rfl) ?_
              refine gn_inc (i := 4) (a := i) (q := 1) rfl dX12_sure_81 (nle rfl) rfl ?_
              refine go_goto (tgt := 22) dX12_sure_84 (by decide) ?_
              rw [show (cnt (lvS P k tc th tf) i) + 1 = (cnt (lvS P k tc th tf) (i + 1)) from (cnt_t ((lv_iff hTO hk).mpr ⟨pnz h35, pnz h45⟩)).symm]
              exact ih _ _ c12 (Or.inr ⟨i, by omega, ((lv_iff hTO hk).mpr ⟨pnz h35, pnz h45⟩), by unfold fuS; rw [if_neg h58]; rfl⟩)
            · skip
              refine go_bipush (v := nI 100) (by decide) dX12_sure_61 ?_
              refine go_goto (tgt := 80) dX12_sure_63 (by decide) ?_
              refine go_istore_n (q := 3) (i := 3) rfl dX12_sure_80 (nle rfl) (nle rfl) ?_
              refine gn_inc (i := 4) (a := i) (q := 1) rfl dX12_sure_81 (nle rfl) rfl ?_
              refine go_goto (tgt := 22) dX12_sure_84 (by decide) ?_
              rw [show (cnt (lvS P k tc th tf) i) + 1 = (cnt (lvS P k tc th tf) (i + 1)) from (cnt_t ((lv_iff hTO hk).mpr ⟨pnz h35, pnz h45⟩)).symm]
              exact ih _ _ c12 (Or.inr ⟨i, by omega, ((lv_iff hTO hk).mpr ⟨pnz h35, pnz h45⟩), by unfold fuS; rw [if_pos h58]⟩)
          · skip
            refine go_goto (tgt := 81) dX12_sure_48 (by decide) ?_
            refine gn_inc (i := 4) (a := i) (q := 1) rfl dX12_sure_81 (nle rfl) rfl ?_
            refine go_goto (tgt := 22) dX12_sure_84 (by decide) ?_
            rw [show (cnt (lvS P k tc th tf) i) = (cnt (lvS P k tc th tf) (i + 1)) from (cnt_f (fun z => pz.mp h45 ((lv_iff hTO hk).mp z).2)).symm]
            exact ih _ _ c12 (hI.imp (fun z => ⟨by rw [show (cnt (lvS P k tc th tf) (i + 1)) = (cnt (lvS P k tc th tf) i) from cnt_f (fun z => pz.mp h45 ((lv_iff hTO hk).mp z).2)]; exact z.1, z.2⟩) (fun ⟨s, a, b⟩ => ⟨s, by omega, b⟩))
    refine go_iload_n (q := 1) (i := 1) rfl rfl dX12_sure_0 ?_
    refine go_iconst (v := nI 0) (by decide) dX12_sure_1 ?_
    refine go_aload_n (q := 0) (i := 0) rfl rfl dX12_sure_2 ?_
    refine go_getI lf12_289 rfl hx.o dX12_sure_3 ?_
    rw [h3]
    refine go_callS okmX12_in lmX12_361 ⟨nle rfl, nle rfl⟩ (ex_in) npmX12_in rfl (nle rfl) ⟨nle rfl, nle rfl⟩ dX12_sure_6 ?_
    rintro _ mz ⟨rfl, hz⟩
    subst mz
    rw [hv]
    refine go_c1 ?_
    refine gz_ne (by omega) (tgt := 14) dX12_sure_9 (by decide) (fun h9 => ?_) (fun h9 => by exfalso; omega)
    refine go_iconst (v := nI 0) (by decide) dX12_sure_14 ?_
    refine go_istore_n (q := 2) (i := 2) rfl dX12_sure_15 (nle rfl) (nle rfl) ?_
    refine go_bipush (v := -2) (by decide) dX12_sure_16 ?_
    refine go_istore_n (q := 3) (i := 3) rfl dX12_sure_18 (nle rfl) (nle rfl) ?_
    refine go_iconst (v := nI 0) (by decide) dX12_sure_19 ?_
    refine go_istore (i := 4) dX12_sure_20 (nle rfl) (nle rfl) ?_
    exact key 0 (Nat.zero_le _) m _ Mo.rf (Or.inl ⟨rfl, rfl⟩)
theorem al_y {P : Pl} {k n c f s : Nat} {tc th tf : Nat → Nat} {v : Nat} (hl : lvS P k tc th tf s) (hv : lkR P s n c = nI v) (hv9 : v ≤ 99) (hf : f < 100) : alK P k n tc th tf c f (s + 1) = if f = v then alK P k n tc th tf c f s + 1 else alK P k n tc th tf c f s := by
  unfold alK
  by_cases e : f = v
  · rw [if_pos e]
    exact cnt_t (p := fun s => lvS P k tc th tf s ∧ lkR P s n c = nI f) ⟨hl, by rw [hv, e]⟩
  · rw [if_neg e]
    exact cnt_f (p := fun s => lvS P k tc th tf s ∧ lkR P s n c = nI f) (fun z => e ((nI_eq (by omega) (by omega)).mp (hv.symm.trans z.2)).symm)
theorem al_n {P : Pl} {k n c f s : Nat} {tc th tf : Nat → Nat} (hl : ¬ lvS P k tc th tf s) : alK P k n tc th tf c f (s + 1) = alK P k n tc th tf c f s :=
  cnt_f (p := fun s => lvS P k tc th tf s ∧ lkR P s n c = nI f) (fun z => hl z.1)
theorem al_le {P : Pl} {k n c f s : Nat} {tc th tf : Nat → Nat} : alK P k n tc th tf c f s ≤ s := cnt_le s
theorem mx_i {g : Nat → Nat} {f w : Nat} (h : (∀ f', f' < f → g f' ≤ w) ∧ (w = 0 ∨ ∃ f', f' < f ∧ g f' = w)) : (w < g f → (∀ f', f' < f + 1 → g f' ≤ g f) ∧ (g f = 0 ∨ ∃ f', f' < f + 1 ∧ g f' = g f)) ∧ (g f ≤ w → (∀ f', f' < f + 1 → g f' ≤ w) ∧ (w = 0 ∨ ∃ f', f' < f + 1 ∧ g f' = w)) := by
  constructor
  · intro q
    refine ⟨fun f' hf => ?_, Or.inr ⟨f, by omega, rfl⟩⟩
    by_cases e : f' = f
    · rw [e]; exact Nat.le_refl _
    · have := h.1 f' (by omega); omega
  · intro q
    refine ⟨fun f' hf => ?_, h.2.imp id (fun ⟨f', a, b⟩ => ⟨f', by omega, b⟩)⟩
    by_cases e : f' = f
    · rw [e]; exact q
    · exact h.1 f' (by omega)
theorem Bst_up {P : Pl} {g : Nat → Nat → Nat} {N N' b : Nat} (hN : N ≤ N') (h : ∀ c, N ≤ c → c < N' → ¬ ld P c) (k : Bst P g N b) : Bst P g N' b := by
  obtain ⟨h1, h2, w, h3, h4⟩ := k
  exact ⟨by omega, h2, w, h3, fun c hc lc w' kw => h4 c (Classical.byContradiction (fun z => h c (by omega) hc lc)) lc w' kw⟩
set_option maxRecDepth 100000 in
set_option maxHeartbeats 8000000 in
theorem ex_ask {m : Me} {P : Pl} {lv : Nat} (hx : Wf12 m.1 (gR m)) (hm : MdC m P lv) (ok : PlOk P) {t : Nat} {tc th tf : Nat → Nat} (hT : Td m 322 323 324 t tc th tf) (hTO : TdO P t tc th tf) (h3 : gI m 274 68 = nI t) {v x : Int32} : Ev mX12_ask [.ref 274, .int v, .int x] m (fun o m' => RfK m m' ∧ ∃ q, o = some (.int q) ∧ AsR P t tc th tf v x q) := by
  refine ⟨plmX12_ask, nle rfl, ?_⟩
  have hw8 := ok.1
  have hr5 := ok.2.1
  have hlv := hm.lv
  have ht := hTO.1
  have hx0 := hx
  have hm0 := hm
  rcases in_c v (N := t) (by omega) with hv | ⟨k, hk, rfl, hv⟩
  · skip
    refine go_iload_n (q := 1) (i := 1) rfl rfl dX12_ask_0 ?_
    refine go_iconst (v := nI 0) (by decide) dX12_ask_1 ?_
    refine go_aload_n (q := 0) (i := 0) rfl rfl dX12_ask_2 ?_
    refine go_getI lf12_289 rfl hx.o dX12_ask_3 ?_
    rw [h3]
    refine go_callS okmX12_in lmX12_361 ⟨nle rfl, nle rfl⟩ (ex_in) npmX12_in rfl (nle rfl) ⟨nle rfl, nle rfl⟩ dX12_ask_6 ?_
    rintro _ mz ⟨rfl, hz⟩
    subst mz
    rw [hv]
    refine go_c1 ?_
    refine gz_eq (by omega) (tgt := 22) dX12_ask_9 (by decide) (fun h9 => ?_) (fun h9 => by exfalso; omega)
    refine go_iconst (v := -1) (by decide) dX12_ask_22 ?_
    refine go_iret rfl ⟨Nat.zero_le _, Nat.zero_le _⟩ dX12_ask_23 ?_
    exact ⟨RfK.rf, _, rfl, Or.inl ⟨fun k' n' a b z => in_no ht a hv z.1, rfl⟩⟩
  · skip
    rcases in_c x (N := 24) (by decide) with hn | ⟨n, hn24, rfl, hn⟩
    · skip
      refine go_iload_n (q := 1) (i := 1) rfl rfl dX12_ask_0 ?_
      refine go_iconst (v := nI 0) (by decide) dX12_ask_1 ?_
      refine go_aload_n (q := 0) (i := 0) rfl rfl dX12_ask_2 ?_
      refine go_getI lf12_289 rfl hx.o dX12_ask_3 ?_
      rw [h3]
      refine go_callS okmX12_in lmX12_361 ⟨nle rfl, nle rfl⟩ (ex_in) npmX12_in rfl (nle rfl) ⟨nle rfl, nle rfl⟩ dX12_ask_6 ?_
      rintro _ mz ⟨rfl, hz⟩
      subst mz
      rw [hv]
      refine go_c1 ?_
      refine gz_eq (by omega) (tgt := 22) dX12_ask_9 (by decide) (fun h9 => by exfalso; omega) (fun h9 => ?_)
      refine go_iload_n (q := 2) (i := 2) rfl rfl dX12_ask_12 ?_
      refine go_iconst (v := nI 0) (by decide) dX12_ask_13 ?_
      refine go_bipush (v := nI 24) (by decide) dX12_ask_14 ?_
      refine go_callS okmX12_in lmX12_361 ⟨nle rfl, nle rfl⟩ (ex_in) npmX12_in rfl (nle rfl) ⟨nle rfl, nle rfl⟩ dX12_ask_16 ?_
      rintro _ mz ⟨rfl, hz⟩
      subst mz
      rw [hn]
      refine go_c1 ?_
      refine gz_ne (by omega) (tgt := 24) dX12_ask_19 (by decide) (fun h19 => by exfalso; omega) (fun h19 => ?_)
      refine go_iconst (v := -1) (by decide) dX12_ask_22 ?_
      refine go_iret rfl ⟨Nat.zero_le _, Nat.zero_le _⟩ dX12_ask_23 ?_
      exact ⟨RfK.rf, _, rfl, Or.inl ⟨fun k' n' a b z => by rw [z.2, in_yes (nI_ge0 (by omega)) (by rw [nI_ltI (by omega) (by omega)]; omega)] at hn; exact absurd hn (by decide), rfl⟩⟩
    · skip
      have key0 : ∀ j, j ≤ 4000 → ∀ mk : Me, Ch (fun y => y = 325) m mk → (∀ z, z < j → gI mk 325 z = nI 0) → Go mX12_ask (fun o m' => RfK m m' ∧ ∃ q, o = some (.int q) ∧ AsR P t tc th tf (nI k) (nI n) q) 26 [some (.ref 274), some (.int (nI k)), some (.int (nI n)), some (.int (nI j)), none, none, none, none, none, none] [] mk 0 0 := by
        refine loop_up 4000 ?_ ?_
        · intro mk ck hk0
          have hx := CX12 ck hx0
          refine go_iload_n (q := 3) (i := 3) rfl rfl dX12_ask_26 ?_
          refine go_sipush (v := nI 4000) (by decide) dX12_ask_27 ?_
          refine gn_ge (by omega) (by omega) (tgt := 46) dX12_ask_30 (by decide) (fun h30 => ?_) (fun h30 => by exfalso; omega)
          refine go_iconst (v := nI 0) (by decide) dX12_ask_46 ?_
          refine go_istore_n (q := 3) (i := 3) rfl dX12_ask_47 (nle rfl) (nle rfl) ?_
          refine go_iconst (v := nI 0) (by decide) dX12_ask_48 ?_
          refine go_istore (i := 4) dX12_ask_49 (nle rfl) (nle rfl) ?_
          have keys : ∀ s, s ≤ 41 → ∀ mi : Me, RfK m mi → (∀ j f, j < 40 → f < 100 → gI mi 325 (100 * j + f) = nI (alK P k n tc th tf j f s)) → ∀ x5 x6 x7 x8 x9 : Option Value, Go mX12_ask (fun o m' => RfK m m' ∧ ∃ q, o = some (.int q) ∧ AsR P t tc th tf (nI k) (nI n) q) 51 [some (.ref 274), some (.int (nI k)), some (.int (nI n)), some (.int (nI (cnt (lvS P k tc th tf) s))), some (.int (nI s)), x5, x6, x7, x8, x9] [] mi 0 0 := by
            refine loop_up 41 ?_ ?_
            · intro mi c1 ha x5 x6 x7 x8 x9
              have hx := c1.wf hx0
              have hm := c1.md hm0
              have hTi := hT.ch c1.1 (by unfold RfA; omega) (by unfold RfA; omega) (by unfold RfA; omega)
              have hcl := cnt_le (p := lvS P k tc th tf) 41
              refine go_iload (i := 4) rfl dX12_ask_51 ?_
              refine go_bipush (v := nI 40) (by decide) dX12_ask_53 ?_
              refine gn_gt (by omega) (by omega) (tgt := 153) dX12_ask_55 (by decide) (fun h55 => ?_) (fun h55 => by exfalso; omega)
              refine go_bipush (v := -2) (by decide) dX12_ask_153 ?_
              refine go_istore (i := 4) dX12_ask_155 (nle rfl) (nle rfl) ?_
              refine go_iconst (v := nI 0) (by decide) dX12_ask_157 ?_
              refine go_istore (i := 5) dX12_ask_158 (nle rfl) (nle rfl) ?_
              refine go_iconst (v := nI 0) (by decide) dX12_ask_160 ?_
              refine go_istore (i := 6) dX12_ask_161 (nle rfl) (nle rfl) ?_
              by_cases hmany : (cnt (lvS P k tc th tf) 41) = 0
              · skip
                refine go_iload (i := 6) rfl dX12_ask_163 ?_
                refine go_aload_n (q := 0) (i := 0) rfl rfl dX12_ask_165 ?_
                refine go_getR lf12_49 rfl hx.o hx.r24 dX12_ask_166 ?_
                refine go_aload_n (q := 0) (i := 0) rfl rfl dX12_ask_169 ?_
                refine go_getI lf12_260 rfl hx.o dX12_ask_170 ?_
                rw [hm.li]
                refine go_iald (j := lv) hx.i24 (by omega) (by first | decide | omega) rfl dX12_ask_173 ?_
                rw [hm.rw]
                refine gn_ge (by omega) (by omega) (tgt := 303) dX12_ask_174 (by decide) (fun h174 => ?_) (fun h174 => ?_)
                · skip
                  refine go_iload (i := 4) rfl dX12_ask_303 ?_
                  refine go_iret rfl ⟨Nat.zero_le _, Nat.zero_le _⟩ dX12_ask_305 ?_
                  exact ⟨c1, _, rfl, Or.inr ⟨k, n, hk, hn24, rfl, rfl, Or.inl ⟨hmany, rfl⟩⟩⟩
                · skip
                  refine go_iload_n (q := 3) (i := 3) rfl rfl dX12_ask_177 ?_
                  refine gz_le (by omega) (tgt := 303) dX12_ask_178 (by decide) (fun h178 => ?_) (fun h178 => by exfalso; omega)
                  refine go_iload (i := 4) rfl dX12_ask_303 ?_
                  refine go_iret rfl ⟨Nat.zero_le _, Nat.zero_le _⟩ dX12_ask_305 ?_
                  exact ⟨c1, _, rfl, Or.inr ⟨k, n, hk, hn24, rfl, rfl, Or.inl ⟨hmany, rfl⟩⟩⟩
              · skip
                have keyy : ∀ y, y ≤ P.rw → ∀ (b : Int32) (w : Nat), w < 2 ^ 20 → ((b = -2 ∧ ∀ c, c < 8 * y → ¬ ld P c) ∨ ∃ q, b = nI (nm q) ∧ Bst P (fun c f => alK P k n tc th tf c f 41) (8 * y) q ∧ MxA ((fun c f => alK P k n tc th tf c f 41) q) w) → ∀ x7 x8 x9 : Option Value, Go mX12_ask (fun o m' => RfK m m' ∧ ∃ q, o = some (.int q) ∧ AsR P t tc th tf (nI k) (nI n) q) 163 [some (.ref 274), some (.int (nI k)), some (.int (nI n)), some (.int (nI (cnt (lvS P k tc th tf) 41))), some (.int b), some (.int (nI w)), some (.int (nI y)), x7, x8, x9] [] mi 0 0 := by
                  refine loop_up P.rw ?_ ?_
                  · intro b w hw20 hI x7 x8 x9
                    skip
                    refine go_iload (i := 6) rfl dX12_ask_163 ?_
                    refine go_aload_n (q := 0) (i := 0) rfl rfl dX12_ask_165 ?_
                    refine go_getR lf12_49 rfl hx.o hx.r24 dX12_ask_166 ?_
                    refine go_aload_n (q := 0) (i := 0) rfl rfl dX12_ask_169 ?_
                    refine go_getI lf12_260 rfl hx.o dX12_ask_170 ?_
                    rw [hm.li]
                    refine go_iald (j := lv) hx.i24 (by omega) (by first | decide | omega) rfl dX12_ask_173 ?_
                    rw [hm.rw]
                    refine gn_ge (by omega) (by omega) (tgt := 303) dX12_ask_174 (by decide) (fun h174 => ?_) (fun h174 => by exfalso; omega)
                    refine go_iload (i := 4) rfl dX12_ask_303 ?_
                    refine go_iret rfl ⟨Nat.zero_le _, Nat.zero_le _⟩ dX12_ask_305 ?_
                    refine ⟨c1, _, rfl, Or.inr ⟨k, n, hk, hn24, rfl, rfl, Or.inr ⟨hmany, ?_⟩⟩⟩
                    rcases hI with ⟨e, h⟩ | ⟨q, e, h, -⟩
                    · exact Or.inl ⟨fun c hc l => h c (by have := l.2; omega) l, e⟩
                    · exact Or.inr ⟨q, Bst_up (by omega) (fun c h1 _ l => by have := l.2; omega) h, e⟩
                  · intro y hy ihy b w hw20 hI x7 x8 x9
                    skip
                    refine go_iload (i := 6) rfl dX12_ask_163 ?_
                    refine go_aload_n (q := 0) (i := 0) rfl rfl dX12_ask_165 ?_
                    refine go_getR lf12_49 rfl hx.o hx.r24 dX12_ask_166 ?_
                    refine go_aload_n (q := 0) (i := 0) rfl rfl dX12_ask_169 ?_
                    refine go_getI lf12_260 rfl hx.o dX12_ask_170 ?_
                    rw [hm.li]
                    refine go_iald (j := lv) hx.i24 (by omega) (by first | decide | omega) rfl dX12_ask_173 ?_
                    rw [hm.rw]
                    refine gn_ge (by omega) (by omega) (tgt := 303) dX12_ask_174 (by decide) (fun h174 => by exfalso; omega) (fun h174 => ?_)
                    refine go_iload_n (q := 3) (i := 3) rfl rfl dX12_ask_177 ?_
                    refine gz_le (by omega) (tgt := 303) dX12_ask_178 (by decide) (fun h178 => by exfalso; omega) (fun h178 => ?_)
                    refine go_iconst (v := nI 0) (by decide) dX12_ask_181 ?_
                    refine go_istore (i := 7) dX12_ask_182 (nle rfl) (nle rfl) ?_
                    have keyx : ∀ x, x ≤ P.wd → ∀ (b : Int32) (w : Nat), w < 2 ^ 20 → ((b = -2 ∧ ∀ c, c < 8 * y + x → ¬ ld P c) ∨ ∃ q, b = nI (nm q) ∧ Bst P (fun c f => alK P k n tc th tf c f 41) (8 * y + x) q ∧ MxA ((fun c f => alK P k n tc th tf c f 41) q) w) → ∀ x8 x9 : Option Value, Go mX12_ask (fun o m' => RfK m m' ∧ ∃ q, o = some (.int q) ∧ AsR P t tc th tf (nI k) (nI n) q) 184 [some (.ref 274), some (.int (nI k)), some (.int (nI n)), some (.int (nI (cnt (lvS P k tc th tf) 41))), some (.int b), some (.int (nI w)), some (.int (nI y)), some (.int (nI x)), x8, x9] [] mi 0 0 := by
                      refine loop_up P.wd ?_ ?_
                      · intro b w hw20 hI x8 x9
                        skip
                        refine go_iload (i := 7) rfl dX12_ask_184 ?_
                        refine go_aload_n (q := 0) (i := 0) rfl rfl dX12_ask_186 ?_
                        refine go_getR lf12_46 rfl hx.o hx.r23 dX12_ask_187 ?_
                        refine go_aload_n (q := 0) (i := 0) rfl rfl dX12_ask_190 ?_
                        refine go_getI lf12_260 rfl hx.o dX12_ask_191 ?_
                        rw [hm.li]
                        refine go_iald (j := lv) hx.i23 (by omega) (by first | decide | omega) rfl dX12_ask_194 ?_
                        rw [hm.wd]
                        refine gn_ge (by omega) (by omega) (tgt := 297) dX12_ask_195 (by decide) (fun h195 => ?_) (fun h195 => by exfalso; omega)
                        refine gn_inc (i := 6) (a := y) (q := 1) rfl dX12_ask_297 (nle rfl) rfl ?_
                        refine go_goto (tgt := 163) dX12_ask_300 (by decide) ?_
                        refine ihy _ _ hw20 ?_ _ _ _
                        rcases hI with ⟨e, h⟩ | ⟨q, e, h, hq⟩
                        · refine Or.inl ⟨e, fun c hc => ?_⟩
                          by_cases z : c < 8 * y + P.wd
                          · exact h c z
                          · intro l; have := l.1; omega
                        · exact Or.inr ⟨q, e, Bst_up (by omega) (fun c h1 h2 l => by have := l.1; omega) h, hq⟩
                      · intro x hx_ ihx b w hw20 hI x8 x9
                        skip
                        refine go_iload (i := 7) rfl dX12_ask_184 ?_
                        refine go_aload_n (q := 0) (i := 0) rfl rfl dX12_ask_186 ?_
                        refine go_getR lf12_46 rfl hx.o hx.r23 dX12_ask_187 ?_
                        refine go_aload_n (q := 0) (i := 0) rfl rfl dX12_ask_190 ?_
                        refine go_getI lf12_260 rfl hx.o dX12_ask_191 ?_
                        rw [hm.li]
                        refine go_iald (j := lv) hx.i23 (by omega) (by first | decide | omega) rfl dX12_ask_194 ?_
                        rw [hm.wd]
                        refine gn_ge (by omega) (by omega) (tgt := 297) dX12_ask_195 (by decide) (fun h195 => by exfalso; omega) (fun h195 => ?_)
                        refine go_iconst (v := nI 0) (by decide) dX12_ask_198 ?_
                        refine go_istore (i := 8) dX12_ask_199 (nle rfl) (nle rfl) ?_
                        refine go_iconst (v := nI 0) (by decide) dX12_ask_201 ?_
                        refine go_istore (i := 9) dX12_ask_202 (nle rfl) (nle rfl) ?_
                        have hld := ld_ab ok hx_ hy
                        have keyf : ∀ f, f ≤ 100 → ∀ w2 : Nat, (∀ f', f' < f → alK P k n tc th tf (8 * y + x) (f') 41 ≤ w2) ∧ (w2 = 0 ∨ ∃ f', f' < f ∧ alK P k n tc th tf (8 * y + x) (f') 41 = w2) → Go mX12_ask (fun o m' => RfK m m' ∧ ∃ q, o = some (.int q) ∧ AsR P t tc th tf (nI k) (nI n) q) 204 [some (.ref 274), some (.int (nI k)), some (.int (nI n)), some (.int (nI (cnt (lvS P k tc th tf) 41))), some (.int b), some (.int (nI w)), some (.int (nI y)), some (.int (nI x)), some (.int (nI w2)), some (.int (nI f))] [] mi 0 0 := by
                          refine loop_up 100 ?_ ?_
                          · intro w2 hM
                            have hw41 : w2 ≤ 41 := by rcases hM.2 with z | ⟨f2, -, z⟩ <;> first | omega | (rw [← z]; exact al_le)
                            refine go_iload (i := 9) rfl dX12_ask_204 ?_
                            refine go_bipush (v := nI 100) (by decide) dX12_ask_206 ?_
                            refine gn_ge (by omega) (by omega) (tgt := 262) dX12_ask_208 (by decide) (fun h208 => ?_) (fun h208 => by exfalso; omega)
                            refine go_iload (i := 4) rfl dX12_ask_262 ?_
                            refine go_if_lt (tgt := 277) dX12_ask_264 (by decide) (fun h264 => ?_) (fun h264 => ?_)
                            · skip
                              refine go_bipush (v := nI 10) (by decide) dX12_ask_277 ?_
                              refine go_iload (i := 6) rfl dX12_ask_279 ?_
                              refine gn_mul dX12_ask_281 ?_
                              refine go_iload (i := 7) rfl dX12_ask_282 ?_
                              refine gn_add dX12_ask_284 ?_
                              refine go_istore (i := 4) dX12_ask_285 (nle rfl) (nle rfl) ?_
                              refine go_iload (i := 8) rfl dX12_ask_287 ?_
                              refine go_istore (i := 5) dX12_ask_289 (nle rfl) (nle rfl) ?_
                              refine gn_inc (i := 7) (a := x) (q := 1) rfl dX12_ask_291 (nle rfl) rfl ?_
                              refine go_goto (tgt := 184) dX12_ask_294 (by decide) ?_
                              refine ihx _ _ (by omega) (Or.inr ⟨8 * y + x, by rw [nm_ab (show x < 8 by omega)], ?_, hM⟩) _ _
                              rcases hI with ⟨-, h⟩ | ⟨q, rfl, h, hq⟩
                              · exact Bst_0 hld h hM
                              · exact absurd h264 (nI_pos (by have := nm_lt (show q < 40 by have := h.1; omega); omega))
                            · skip
                              refine go_iload (i := 8) rfl dX12_ask_267 ?_
                              refine go_iload (i := 5) rfl dX12_ask_269 ?_
                              refine gn_lt (by omega) (by omega) (tgt := 277) dX12_ask_271 (by decide) (fun h271 => ?_) (fun h271 => ?_)
                              · skip
                                refine go_bipush (v := nI 10) (by decide) dX12_ask_277 ?_
                                refine go_iload (i := 6) rfl dX12_ask_279 ?_
                                refine gn_mul dX12_ask_281 ?_
                                refine go_iload (i := 7) rfl dX12_ask_282 ?_
                                refine gn_add dX12_ask_284 ?_
                                refine go_istore (i := 4) dX12_ask_285 (nle rfl) (nle rfl) ?_
                                refine go_iload (i := 8) rfl dX12_ask_287 ?_
                                refine go_istore (i := 5) dX12_ask_289 (nle rfl) (nle rfl) ?_
                                refine gn_inc (i := 7) (a := x) (q := 1) rfl dX12_ask_291 (nle rfl) rfl ?_
                                refine go_goto (tgt := 184) dX12_ask_294 (by decide) ?_
                                refine ihx _ _ (by omega) (Or.inr ⟨8 * y + x, by rw [nm_ab (show x < 8 by omega)], ?_, hM⟩) _ _
                                rcases hI with ⟨-, h⟩ | ⟨q, rfl, h, hq⟩
                                · exact Bst_0 hld h hM
                                · exact (Bst_s hld h hq hM).1 (by omega)
                              · skip
                                refine go_goto (tgt := 291) dX12_ask_274 (by decide) ?_
                                refine gn_inc (i := 7) (a := x) (q := 1) rfl dX12_ask_291 (nle rfl) rfl ?_
                                refine go_goto (tgt := 184) dX12_ask_294 (by decide) ?_
                                refine ihx _ _ hw20 ?_ _ _
                                rcases hI with ⟨rfl, -⟩ | ⟨q, rfl, h, hq⟩
                                · exact absurd h264 (by decide)
                                · exact Or.inr ⟨q, rfl, (Bst_s hld h hq hM).2 (by omega), hq⟩
                          · intro f hf ihf w2 hM
                            have hal := al_le (P := P) (k := k) (n := n) (tc := tc) (th := th) (tf := tf) (c := 8 * y + x) (f := f) (s := 41)
                            have hw41 : w2 ≤ 41 := by rcases hM.2 with z | ⟨f2, -, z⟩ <;> first | omega | (rw [← z]; exact al_le)
                            refine go_iload (i := 9) rfl dX12_ask_204 ?_
                            refine go_bipush (v := nI 100) (by decide) dX12_ask_206 ?_
                            refine gn_ge (by omega) (by omega) (tgt := 262) dX12_ask_208 (by decide) (fun h208 => by exfalso; omega) (fun h208 => ?_)
                            refine go_aload_n (q := 0) (i := 0) rfl rfl dX12_ask_211 ?_
                            refine go_getR lf12_170 rfl hx.o hx.r72 dX12_ask_212 ?_
                            refine go_bipush (v := nI 100) (by decide) dX12_ask_215 ?_
                            refine go_bipush (v := nI 8) (by decide) dX12_ask_217 ?_
                            refine go_iload (i := 6) rfl dX12_ask_219 ?_
                            refine gn_mul dX12_ask_221 ?_
                            refine go_iload (i := 7) rfl dX12_ask_222 ?_
                            refine gn_add dX12_ask_224 ?_
                            refine gn_mul dX12_ask_225 ?_
                            refine go_iload (i := 9) rfl dX12_ask_226 ?_
                            refine gn_add dX12_ask_228 ?_
                            refine go_iald (j := ((100 * ((8 * y) + x)) + f)) hx.i72 (by omega) (by first | decide | omega) rfl dX12_ask_229 ?_
                            rw [ha (8 * y + x) f (by omega) hf]
                            refine go_iload (i := 8) rfl dX12_ask_230 ?_
                            refine gn_le (by omega) (by omega) (tgt := 256) dX12_ask_232 (by decide) (fun h232 => ?_) (fun h232 => ?_)
                            · skip
                              refine gn_inc (i := 9) (a := f) (q := 1) rfl dX12_ask_256 (nle rfl) rfl ?_
                              refine go_goto (tgt := 204) dX12_ask_259 (by decide) ?_
                              exact ihf _ ((mx_i hM).2 (by omega))
                            · skip
                              refine go_aload_n (q := 0) (i := 0) rfl rfl dX12_ask_235 ?_
                              refine go_getR lf12_170 rfl hx.o hx.r72 dX12_ask_236 ?_
                              refine go_bipush (v := nI 100) (by decide) dX12_ask_239 ?_
                              refine go_bipush (v := nI 8) (by decide) dX12_ask_241 ?_
                              refine go_iload (i := 6) rfl dX12_ask_243 ?_
                              refine gn_mul dX12_ask_245 ?_
                              refine go_iload (i := 7) rfl dX12_ask_246 ?_
                              refine gn_add dX12_ask_248 ?_
                              refine gn_mul dX12_ask_249 ?_
                              refine go_iload (i := 9) rfl dX12_ask_250 ?_
                              refine gn_add dX12_ask_252 ?_
                              refine go_iald (j := ((100 * ((8 * y) + x)) + f)) hx.i72 (by omega) (by first | decide | omega) rfl dX12_ask_253 ?_
                              rw [ha (8 * y + x) f (by omega) hf]
                              refine go_istore (i := 8) dX12_ask_254 (nle rfl) (nle rfl) ?_
                              refine gn_inc (i := 9) (a := f) (q := 1) rfl dX12_ask_256 (nle rfl) rfl ?_
                              refine go_goto (tgt := 204) dX12_ask_259 (by decide) ?_
                              exact ihf _ ((mx_i hM).1 (by omega))
                        exact keyf 0 (Nat.zero_le _) 0 ⟨fun f' h => absurd h (Nat.not_lt_zero f'), Or.inl rfl⟩
                    exact keyx 0 (Nat.zero_le _) b w hw20 hI _ _
                exact keyy 0 (Nat.zero_le _) (-2) 0 (by decide) (Or.inl ⟨rfl, fun c h => absurd h (by omega)⟩) _ _ _
            · intro s hs ihs mi c1 ha x5 x6 x7 x8 x9
              have hx := c1.wf hx0
              have hm := c1.md hm0
              have hTi := hT.ch c1.1 (by unfold RfA; omega) (by unfold RfA; omega) (by unfold RfA; omega)
              have hcl := cnt_le (p := lvS P k tc th tf) s
              refine go_iload (i := 4) rfl dX12_ask_51 ?_
              refine go_bipush (v := nI 40) (by decide) dX12_ask_53 ?_
              refine gn_gt (by omega) (by omega) (tgt := 153) dX12_ask_55 (by decide) (fun h55 => by exfalso; omega) (fun h55 => ?_)
              refine go_aload_n (q := 0) (i := 0) rfl rfl dX12_ask_58 ?_
              refine go_iload (i := 4) rfl dX12_ask_59 ?_
              refine go_callV okmX12_mayLeak lmX12_479 ⟨nle rfl, nle rfl⟩ hx.o ⟨by decide, rfl⟩ (ex_mayLeak hx hm ok (s := s) (by omega)) npmX12_mayLeak rfl (nle rfl) ⟨nle rfl, nle rfl⟩ dX12_ask_61 ?_
              rintro _ mz ⟨rfl, hz⟩
              subst mz
              refine go_c1 ?_
              refine go_if_eq (tgt := 147) dX12_ask_64 (by decide) (fun h64 => ?_) (fun h64 => ?_)
              · skip
                refine gn_inc (i := 4) (a := s) (q := 1) rfl dX12_ask_147 (nle rfl) rfl ?_
                refine go_goto (tgt := 51) dX12_ask_150 (by decide) ?_
                rw [show (cnt (lvS P k tc th tf) s) = (cnt (lvS P k tc th tf) (s + 1)) from (cnt_f (fun z => pz.mp h64 ((lv_iff hTO hk).mp z).1)).symm]
                exact ihs _ c1 (fun j f hj hf => by rw [al_n (fun z => pz.mp h64 ((lv_iff hTO hk).mp z).1)]; exact ha j f hj hf) _ _ _ _ _
              · skip
                refine go_aload_n (q := 0) (i := 0) rfl rfl dX12_ask_67 ?_
                refine go_iload (i := 4) rfl dX12_ask_68 ?_
                refine go_iload_n (q := 1) (i := 1) rfl rfl dX12_ask_70 ?_
                refine go_callV okmX12_isSo lmX12_482 ⟨nle rfl, nle rfl⟩ hx.o ⟨by decide, rfl⟩ (ex_isSo hx hm ok (s := s) (by omega) hTi hTO hk) npmX12_isSo rfl (nle rfl) ⟨nle rfl, nle rfl⟩ dX12_ask_71 ?_
                rintro _ m2 ⟨rfl, c2⟩
                have hx := c2.wf hx
                have hm := c2.md hm
                refine go_c1 ?_
                refine go_if_ne (tgt := 80) dX12_ask_74 (by decide) (fun h74 => ?_) (fun h74 => ?_)
                · skip
                  refine gn_inc (i := 3) (a := (cnt (lvS P k tc th tf) s)) (q := 1) rfl dX12_ask_80 (nle rfl) rfl ?_
                  refine go_aload_n (q := 0) (i := 0) rfl rfl dX12_ask_83 ?_
                  refine go_callV okmX12_begins lmX12_187 ⟨nle rfl, nle rfl⟩ hx.o ⟨by decide, rfl⟩ (ex_begins hx hm ok) npmX12_begins rfl (nle rfl) ⟨nle rfl, nle rfl⟩ dX12_ask_84 ?_
                  rintro _ m3 ⟨rfl, c3, e3, s3, l3, -⟩
                  have hx := c3.wf hx
                  have hm := c3.md hm
                  refine go_c0 ?_
                  refine go_aload_n (q := 0) (i := 0) rfl rfl dX12_ask_87 ?_
                  refine go_iload (i := 4) rfl dX12_ask_88 ?_
                  refine go_bipush (v := nI 40) (by decide) dX12_ask_90 ?_
                  refine gn_ne (by omega) (by omega) (tgt := 99) dX12_ask_92 (by decide) (fun h92 => ?_) (fun h92 => ?_)
                  · skip
                    refine go_iload (i := 4) rfl dX12_ask_99 ?_
                    refine go_putI lf12_368 rfl (Or.inl rfl) hx.o dX12_ask_101 ?_
                    generalize hmA : sI m3 274 _ = mA
                    have cA : Mo m2 mA := c3.tr ⟨by rw [← hmA]; exact Ch.I (Or.inl rfl), fun k a b c => by rw [← hmA, gI_s, upd_ne c]⟩
                    have sA : gI mA 274 60 = P.se := by rw [← hmA, gI_s, upd_ne (by decide)]; exact s3
                    have lA : gI mA 274 61 = laS s := by rw [← hmA, gI_s, upd_eq]; exact ((if_neg h92).symm)
                    have eA : Er (gI mA 316) (bgM P) := fun q hq => by rw [← hmA, gI_n (by decide)]; exact e3 q hq
                    have hx : Wf12 mA.1 (gR mA) := CX12 (show Ch (fun y => y = 274) m3 mA by rw [← hmA]; exact Ch.I rfl) hx
                    have hm : MdC mA P lv := cA.md (c2.md (c1.md hm0))
                    refine go_aload_n (q := 0) (i := 0) rfl rfl dX12_ask_104 ?_
                    refine go_iload_n (q := 2) (i := 2) rfl rfl dX12_ask_105 ?_
                    refine go_callV okmX12_goes lmX12_438 ⟨nle rfl, nle rfl⟩ hx.o ⟨by decide, rfl⟩ (ex_goes hx hm ok (by omega)) npmX12_goes rfl (nle rfl) ⟨nle rfl, nle rfl⟩ dX12_ask_106 ?_
                    rintro _ mg ⟨rfl, cG, eG⟩
                    have hxg := cG.1.wf hx
                    have hE : Er (gI mg 316) (lkR P s n) := by
                      rw [eG, lA, sA, hrN_la]
                      exact hrN_c ok eA n
                    have c1g : RfK m mg := (c1.tr (RfK.of c2)).tr (RfK.of (cA.tr cG.1))
                    have h325 : gI mg 325 = gI mi 325 := (cG.1.1.at (by omega)).trans ((cA.1.at (by omega)).trans (c2.1.at (by omega)))
                    have hls : lvS P k tc th tf s := (lv_iff hTO hk).mpr ⟨pnz h64, pnz h74⟩
                    refine go_c0 ?_
                    refine go_iconst (v := nI 0) (by decide) dX12_ask_109 ?_
                    refine go_istore (i := 5) dX12_ask_110 (nle rfl) (nle rfl) ?_
                    have keyj : ∀ j, j ≤ 40 → ∀ mk : Me, Ch (fun y => y = 325) mg mk → (∀ j' f, j' < 40 → f < 100 → gI mk 325 (100 * j' + f) = nI ((if j' < j then alK P k n tc th tf (j') f (s + 1) else alK P k n tc th tf (j') f s))) → Go mX12_ask (fun o m' => RfK m m' ∧ ∃ q, o = some (.int q) ∧ AsR P t tc th tf (nI k) (nI n) q) 112 [some (.ref 274), some (.int (nI k)), some (.int (nI n)), some (.int (nI ((cnt (lvS P k tc th tf) s) + 1))), some (.int (nI s)), some (.int (nI j)), x6, x7, x8, x9] [] mk 0 0 := by
                      refine loop_up 40 ?_ ?_
                      · intro mk ck ha
                        have hx := CX12 ck hxg
                        refine go_iload (i := 5) rfl dX12_ask_112 ?_
                        refine go_bipush (v := nI 40) (by decide) dX12_ask_114 ?_
                        refine gn_ge (by omega) (by omega) (tgt := 147) dX12_ask_116 (by decide) (fun h116 => ?_) (fun h116 => by exfalso; omega)
                        refine gn_inc (i := 4) (a := s) (q := 1) rfl dX12_ask_147 (nle rfl) rfl ?_
                        refine go_goto (tgt := 51) dX12_ask_150 (by decide) ?_
                        rw [show (cnt (lvS P k tc th tf) s) + 1 = (cnt (lvS P k tc th tf) (s + 1)) from (cnt_t hls).symm]
                        exact ihs _ (c1g.tr (RfK.c2 (ck.mn (fun y hy => by omega)) (fun z => z.of (ck.at (by omega)) (by rw [ck.at (x := 274) (by omega)]) (ck.at (by omega))))) (fun j f hj hf => by rw [ha j f hj hf, if_pos hj]) _ _ _ _ _
                      · intro j hj ihj mk ck ha
                        have hx := CX12 ck hxg
                        obtain ⟨v, hv9, hv⟩ := lk_ok ok (s := s) hn24 j hj
                        refine go_iload (i := 5) rfl dX12_ask_112 ?_
                        refine go_bipush (v := nI 40) (by decide) dX12_ask_114 ?_
                        refine gn_ge (by omega) (by omega) (tgt := 147) dX12_ask_116 (by decide) (fun h116 => by exfalso; omega) (fun h116 => ?_)
                        refine go_aload_n (q := 0) (i := 0) rfl rfl dX12_ask_119 ?_
                        refine go_getR lf12_170 rfl hx.o hx.r72 dX12_ask_120 ?_
                        refine go_bipush (v := nI 100) (by decide) dX12_ask_123 ?_
                        refine go_iload (i := 5) rfl dX12_ask_125 ?_
                        refine gn_mul dX12_ask_127 ?_
                        refine go_aload_n (q := 0) (i := 0) rfl rfl dX12_ask_128 ?_
                        refine go_getR lf12_143 rfl hx.o hx.r59 dX12_ask_129 ?_
                        refine go_iload (i := 5) rfl dX12_ask_132 ?_
                        refine go_iald (j := j) hx.i59 (by omega) (by first | decide | omega) rfl dX12_ask_134 ?_
                        rw [show gI mk 316 = gI mg 316 from ck.at (by omega), hE j (by omega), hv]
                        refine gn_add dX12_ask_135 ?_
                        refine go_dup2 rfl rfl dX12_ask_136 ?_
                        refine go_iald (j := ((100 * j) + v)) hx.i72 (by omega) (by first | decide | omega) rfl dX12_ask_137 ?_
                        rw [ha j v hj (by omega), if_neg (Nat.lt_irrefl j)]
                        refine go_iconst (v := nI 1) (by decide) dX12_ask_138 ?_
                        refine gn_add dX12_ask_139 ?_
                        refine go_iast (j := ((100 * j) + v)) hx.i72 (by omega) (by first | decide | omega) rfl dX12_ask_140 ?_
                        refine gn_inc (i := 5) (a := j) (q := 1) rfl dX12_ask_141 (nle rfl) rfl ?_
                        refine go_goto (tgt := 112) dX12_ask_144 (by decide) ?_
                        refine ihj _ (ck.tr (Ch.I rfl)) (fun j' f hj' hf => ?_)
                        rw [gI_s]
                        by_cases e : j' = j
                        · subst e
                          rw [if_pos (by omega), al_y hls hv hv9 hf]
                          by_cases z : f = v
                          · rw [z, upd_eq, if_pos rfl]
                          · rw [upd_ne (by omega), if_neg z, ha j' f hj' hf, if_neg (Nat.lt_irrefl j')]
                        · rw [upd_ne (by omega), ha j' f hj' hf]
                          by_cases z : j' < j
                          · rw [if_pos z, if_pos (by omega)]
                          · rw [if_neg z, if_neg (by omega)]
                    exact keyj 0 (Nat.zero_le _) mg Ch.rf (fun j f hj hf => by rw [h325, if_neg (Nat.not_lt_zero j)]; exact ha j f hj hf)
                  · skip
                    refine go_iconst (v := -1) (by decide) dX12_ask_95 ?_
                    refine go_goto (tgt := 101) dX12_ask_96 (by decide) ?_
                    refine go_putI lf12_368 rfl (Or.inl rfl) hx.o dX12_ask_101 ?_
                    generalize hmA : sI m3 274 _ = mA
                    have cA : Mo m2 mA := c3.tr ⟨by rw [← hmA]; exact Ch.I (Or.inl rfl), fun k a b c => by rw [← hmA, gI_s, upd_ne c]⟩
                    have sA : gI mA 274 60 = P.se := by rw [← hmA, gI_s, upd_ne (by decide)]; exact s3
                    have lA : gI mA 274 61 = laS s := by rw [← hmA, gI_s, upd_eq]; exact ((if_pos h92).symm)
                    have eA : Er (gI mA 316) (bgM P) := fun q hq => by rw [← hmA, gI_n (by decide)]; exact e3 q hq
                    have hx : Wf12 mA.1 (gR mA) := CX12 (show Ch (fun y => y = 274) m3 mA by rw [← hmA]; exact Ch.I rfl) hx
                    have hm : MdC mA P lv := cA.md (c2.md (c1.md hm0))
                    refine go_aload_n (q := 0) (i := 0) rfl rfl dX12_ask_104 ?_
                    refine go_iload_n (q := 2) (i := 2) rfl rfl dX12_ask_105 ?_
                    refine go_callV okmX12_goes lmX12_438 ⟨nle rfl, nle rfl⟩ hx.o ⟨by decide, rfl⟩ (ex_goes hx hm ok (by omega)) npmX12_goes rfl (nle rfl) ⟨nle rfl, nle rfl⟩ dX12_ask_106 ?_
                    rintro _ mg ⟨rfl, cG, eG⟩
                    have hxg := cG.1.wf hx
                    have hE : Er (gI mg 316) (lkR P s n) := by
                      rw [eG, lA, sA, hrN_la]
                      exact hrN_c ok eA n
                    have c1g : RfK m mg := (c1.tr (RfK.of c2)).tr (RfK.of (cA.tr cG.1))
                    have h325 : gI mg 325 = gI mi 325 := (cG.1.1.at (by omega)).trans ((cA.1.at (by omega)).trans (c2.1.at (by omega)))
                    have hls : lvS P k tc th tf s := (lv_iff hTO hk).mpr ⟨pnz h64, pnz h74⟩
                    refine go_c0 ?_
                    refine go_iconst (v := nI 0) (by decide) dX12_ask_109 ?_
                    refine go_istore (i := 5) dX12_ask_110 (nle rfl) (nle rfl) ?_
                    have keyj : ∀ j, j ≤ 40 → ∀ mk : Me, Ch (fun y => y = 325) mg mk → (∀ j' f, j' < 40 → f < 100 → gI mk 325 (100 * j' + f) = nI ((if j' < j then alK P k n tc th tf (j') f (s + 1) else alK P k n tc th tf (j') f s))) → Go mX12_ask (fun o m' => RfK m m' ∧ ∃ q, o = some (.int q) ∧ AsR P t tc th tf (nI k) (nI n) q) 112 [some (.ref 274), some (.int (nI k)), some (.int (nI n)), some (.int (nI ((cnt (lvS P k tc th tf) s) + 1))), some (.int (nI s)), some (.int (nI j)), x6, x7, x8, x9] [] mk 0 0 := by
                      refine loop_up 40 ?_ ?_
                      · intro mk ck ha
                        have hx := CX12 ck hxg
                        refine go_iload (i := 5) rfl dX12_ask_112 ?_
                        refine go_bipush (v := nI 40) (by decide) dX12_ask_114 ?_
                        refine gn_ge (by omega) (by omega) (tgt := 147) dX12_ask_116 (by decide) (fun h116 => ?_) (fun h116 => by exfalso; omega)
                        refine gn_inc (i := 4) (a := s) (q := 1) rfl dX12_ask_147 (nle rfl) rfl ?_
                        refine go_goto (tgt := 51) dX12_ask_150 (by decide) ?_
                        rw [show (cnt (lvS P k tc th tf) s) + 1 = (cnt (lvS P k tc th tf) (s + 1)) from (cnt_t hls).symm]
                        exact ihs _ (c1g.tr (RfK.c2 (ck.mn (fun y hy => by omega)) (fun z => z.of (ck.at (by omega)) (by rw [ck.at (x := 274) (by omega)]) (ck.at (by omega))))) (fun j f hj hf => by rw [ha j f hj hf, if_pos hj]) _ _ _ _ _
                      · intro j hj ihj mk ck ha
                        have hx := CX12 ck hxg
                        obtain ⟨v, hv9, hv⟩ := lk_ok ok (s := s) hn24 j hj
                        refine go_iload (i := 5) rfl dX12_ask_112 ?_
                        refine go_bipush (v := nI 40) (by decide) dX12_ask_114 ?_
                        refine gn_ge (by omega) (by omega) (tgt := 147) dX12_ask_116 (by decide) (fun h116 => by exfalso; omega) (fun h116 => ?_)
                        refine go_aload_n (q := 0) (i := 0) rfl rfl dX12_ask_119 ?_
                        refine go_getR lf12_170 rfl hx.o hx.r72 dX12_ask_120 ?_
                        refine go_bipush (v := nI 100) (by decide) dX12_ask_123 ?_
                        refine go_iload (i := 5) rfl dX12_ask_125 ?_
                        refine gn_mul dX12_ask_127 ?_
                        refine go_aload_n (q := 0) (i := 0) rfl rfl dX12_ask_128 ?_
                        refine go_getR lf12_143 rfl hx.o hx.r59 dX12_ask_129 ?_
                        refine go_iload (i := 5) rfl dX12_ask_132 ?_
                        refine go_iald (j := j) hx.i59 (by omega) (by first | decide | omega) rfl dX12_ask_134 ?_
                        rw [show gI mk 316 = gI mg 316 from ck.at (by omega), hE j (by omega), hv]
                        refine gn_add dX12_ask_135 ?_
                        refine go_dup2 rfl rfl dX12_ask_136 ?_
                        refine go_iald (j := ((100 * j) + v)) hx.i72 (by omega) (by first | decide | omega) rfl dX12_ask_137 ?_
                        rw [ha j v hj (by omega), if_neg (Nat.lt_irrefl j)]
                        refine go_iconst (v := nI 1) (by decide) dX12_ask_138 ?_
                        refine gn_add dX12_ask_139 ?_
                        refine go_iast (j := ((100 * j) + v)) hx.i72 (by omega) (by first | decide | omega) rfl dX12_ask_140 ?_
                        refine gn_inc (i := 5) (a := j) (q := 1) rfl dX12_ask_141 (nle rfl) rfl ?_
                        refine go_goto (tgt := 112) dX12_ask_144 (by decide) ?_
                        refine ihj _ (ck.tr (Ch.I rfl)) (fun j' f hj' hf => ?_)
                        rw [gI_s]
                        by_cases e : j' = j
                        · subst e
                          rw [if_pos (by omega), al_y hls hv hv9 hf]
                          by_cases z : f = v
                          · rw [z, upd_eq, if_pos rfl]
                          · rw [upd_ne (by omega), if_neg z, ha j' f hj' hf, if_neg (Nat.lt_irrefl j')]
                        · rw [upd_ne (by omega), ha j' f hj' hf]
                          by_cases z : j' < j
                          · rw [if_pos z, if_pos (by omega)]
                          · rw [if_neg z, if_neg (by omega)]
                    exact keyj 0 (Nat.zero_le _) mg Ch.rf (fun j f hj hf => by rw [h325, if_neg (Nat.not_lt_zero j)]; exact ha j f hj hf)
                · skip
                  refine go_goto (tgt := 147) dX12_ask_77 (by decide) ?_
                  refine gn_inc (i := 4) (a := s) (q := 1) rfl dX12_ask_147 (nle rfl) rfl ?_
                  refine go_goto (tgt := 51) dX12_ask_150 (by decide) ?_
                  rw [show (cnt (lvS P k tc th tf) s) = (cnt (lvS P k tc th tf) (s + 1)) from (cnt_f (fun z => pz.mp h74 ((lv_iff hTO hk).mp z).2)).symm]
                  exact ihs _ (c1.tr (RfK.of c2)) (fun j f hj hf => by rw [al_n (fun z => pz.mp h74 ((lv_iff hTO hk).mp z).2), c2.1.at (by omega)]; exact ha j f hj hf) _ _ _ _ _
          exact keys 0 (Nat.zero_le _) mk (RfK.c2 (ck.mn (fun y hy => by omega)) (fun z => z.of (ck.at (by omega)) (by rw [ck.at (x := 274) (by omega)]) (ck.at (by omega)))) (fun j f hj hf => hk0 _ (by omega)) _ _ _ _ _
        · intro j hj ihj mk ck hk0
          have hx := CX12 ck hx0
          refine go_iload_n (q := 3) (i := 3) rfl rfl dX12_ask_26 ?_
          refine go_sipush (v := nI 4000) (by decide) dX12_ask_27 ?_
          refine gn_ge (by omega) (by omega) (tgt := 46) dX12_ask_30 (by decide) (fun h30 => by exfalso; omega) (fun h30 => ?_)
          refine go_aload_n (q := 0) (i := 0) rfl rfl dX12_ask_33 ?_
          refine go_getR lf12_170 rfl hx.o hx.r72 dX12_ask_34 ?_
          refine go_iload_n (q := 3) (i := 3) rfl rfl dX12_ask_37 ?_
          refine go_iconst (v := nI 0) (by decide) dX12_ask_38 ?_
          refine go_iast (j := j) hx.i72 (by omega) (by first | decide | omega) rfl dX12_ask_39 ?_
          refine gn_inc (i := 3) (a := j) (q := 1) rfl dX12_ask_40 (nle rfl) rfl ?_
          refine go_goto (tgt := 26) dX12_ask_43 (by decide) ?_
          exact ihj _ (ck.tr (Ch.I rfl)) (by rw [gI_s]; exact fl_up hk0)
      refine go_iload_n (q := 1) (i := 1) rfl rfl dX12_ask_0 ?_
      refine go_iconst (v := nI 0) (by decide) dX12_ask_1 ?_
      refine go_aload_n (q := 0) (i := 0) rfl rfl dX12_ask_2 ?_
      refine go_getI lf12_289 rfl hx.o dX12_ask_3 ?_
      rw [h3]
      refine go_callS okmX12_in lmX12_361 ⟨nle rfl, nle rfl⟩ (ex_in) npmX12_in rfl (nle rfl) ⟨nle rfl, nle rfl⟩ dX12_ask_6 ?_
      rintro _ mz ⟨rfl, hz⟩
      subst mz
      rw [hv]
      refine go_c1 ?_
      refine gz_eq (by omega) (tgt := 22) dX12_ask_9 (by decide) (fun h9 => by exfalso; omega) (fun h9 => ?_)
      refine go_iload_n (q := 2) (i := 2) rfl rfl dX12_ask_12 ?_
      refine go_iconst (v := nI 0) (by decide) dX12_ask_13 ?_
      refine go_bipush (v := nI 24) (by decide) dX12_ask_14 ?_
      refine go_callS okmX12_in lmX12_361 ⟨nle rfl, nle rfl⟩ (ex_in) npmX12_in rfl (nle rfl) ⟨nle rfl, nle rfl⟩ dX12_ask_16 ?_
      rintro _ mz ⟨rfl, hz⟩
      subst mz
      rw [hn]
      refine go_c1 ?_
      refine gz_ne (by omega) (tgt := 24) dX12_ask_19 (by decide) (fun h19 => ?_) (fun h19 => by exfalso; omega)
      refine go_iconst (v := nI 0) (by decide) dX12_ask_24 ?_
      refine go_istore_n (q := 3) (i := 3) rfl dX12_ask_25 (nle rfl) (nle rfl) ?_
      exact key0 0 (Nat.zero_le _) m Ch.rf (fun z h => absurd h (Nat.not_lt_zero z))
