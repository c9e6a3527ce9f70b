abbrev wO (k : Nat) : Prop := k = 32 ∨ k = 27 ∨ k = 28 ∨ k = 29 ∨ k = 30
set_option maxRecDepth 100000 in
set_option maxHeartbeats 8000000 in
theorem ex_out0 {m : Me} {c0 : Nat} {W : List Nat} {D : List (Nat × Nat)} (hx : Wf12 m.1 (gR m)) (h : RC m c0 W D) (hc : c0 ≤ 420) (hw : W.length ≤ 24) (hk : ∀ k ∈ W, wO k) (hd : D.length + W.length ≤ 420) : Ev mX12_comesOut [.ref 274, .int (nI 0)] m (fun o m' => o = none ∧ RC m' c0 (eOut 1 W D).1 (eOut 1 W D).2 ∧ Fe c0 m m') := by
  refine ⟨plmX12_comesOut, nle rfl, ?_⟩
  have key : ∀ (V : List Nat) (E : List (Nat × Nat)) (m1 : Me) (x2 : Option Value), RC m1 c0 V E → Fe c0 m m1 → V.length ≤ 24 → (∀ k ∈ V, wO k) → E.length + V.length ≤ 420 → eOut 1 V E = eOut 1 W D → Go mX12_comesOut (fun o m' => o = none ∧ RC m' c0 (eOut 1 W D).1 (eOut 1 W D).2 ∧ Fe c0 m m') 0 [some (.ref 274), some (.int (nI 0)), x2] [] m1 0 0 := by
    intro V
    induction V with
    | nil =>
      intro E m1 x2 h c _ _ _ hS
      have hx := c.wf hx
      rw [show eOut 1 [] E = ([], E) from rfl] at hS
      refine go_aload_n (q := 0) (i := 0) rfl rfl dX12_comesOut_0 ?_
      refine go_getI lf12_344 rfl hx.o dX12_comesOut_1 ?_
      rw [show gI m1 274 54 = nI 0 from h.2.2.1]
      refine gz_le (by omega) (tgt := 91) dX12_comesOut_4 (by decide) (fun h4 => ?_) (fun h4 => by exfalso; omega)
      refine go_vret rfl ⟨Nat.zero_le _, Nat.zero_le _⟩ dX12_comesOut_91 ?_
      rw [← hS]
      exact ⟨rfl, h, c⟩
    | cons k V ih =>
      intro E m1 x2 h c hV hkV hd hS
      have hx := c.wf hx
      have hV1 : V.length + 1 ≤ 24 := hV
      have hd1 : E.length + (V.length + 1) ≤ 420 := hd
      have htop := h.top
      have hlen : gI m1 274 54 = nI (V.length + 1) := h.2.2.1
      rcases hkV k (List.mem_cons_self) with rfl | rfl | rfl | rfl | rfl
      · rw [show eOut 1 (32 :: V) E = (32 :: V, E) from if_neg (by decide)] at hS
        refine go_aload_n (q := 0) (i := 0) rfl rfl dX12_comesOut_0 ?_
        refine go_getI lf12_344 rfl hx.o dX12_comesOut_1 ?_
        rw [hlen]
        refine gz_le (by omega) (tgt := 91) dX12_comesOut_4 (by decide) (fun h4 => by exfalso; omega) (fun h4 => ?_)
        refine go_aload_n (q := 0) (i := 0) rfl rfl dX12_comesOut_7 ?_
        refine go_getR lf12_131 rfl hx.o hx.r53 dX12_comesOut_8 ?_
        refine go_aload_n (q := 0) (i := 0) rfl rfl dX12_comesOut_11 ?_
        refine go_getI lf12_344 rfl hx.o dX12_comesOut_12 ?_
        rw [hlen]
        refine go_iconst (v := nI 1) (by decide) dX12_comesOut_15 ?_
        refine gn_sub (by omega) dX12_comesOut_16 ?_
        rw [Nat.add_sub_cancel]
        refine go_iald (j := V.length) hx.i53 (by omega) (by first | decide | omega) rfl dX12_comesOut_17 ?_
        rw [htop, show rk 32 = 6 by decide]
        refine go_istore_n (q := 2) (i := 2) rfl dX12_comesOut_18 (nle rfl) (nle rfl) ?_
        refine go_iload_n (q := 2) (i := 2) rfl rfl dX12_comesOut_19 ?_
        refine go_bipush (v := nI 6) (by decide) dX12_comesOut_20 ?_
        refine gn_eq (by omega) (by omega) (tgt := 41) dX12_comesOut_22 (by decide) (fun h22 => ?_) (fun h22 => by exfalso; omega)
        refine go_vret rfl ⟨Nat.zero_le _, Nat.zero_le _⟩ dX12_comesOut_41 ?_
        rw [← hS]
        exact ⟨rfl, h, c⟩
      · rw [show eOut 1 (27 :: V) E = eOut 1 V (E ++ [(27 - 25, 0)]) from if_pos (by decide)] at hS
        refine go_aload_n (q := 0) (i := 0) rfl rfl dX12_comesOut_0 ?_
        refine go_getI lf12_344 rfl hx.o dX12_comesOut_1 ?_
        rw [hlen]
        refine gz_le (by omega) (tgt := 91) dX12_comesOut_4 (by decide) (fun h4 => by exfalso; omega) (fun h4 => ?_)
        refine go_aload_n (q := 0) (i := 0) rfl rfl dX12_comesOut_7 ?_
        refine go_getR lf12_131 rfl hx.o hx.r53 dX12_comesOut_8 ?_
        refine go_aload_n (q := 0) (i := 0) rfl rfl dX12_comesOut_11 ?_
        refine go_getI lf12_344 rfl hx.o dX12_comesOut_12 ?_
        rw [hlen]
        refine go_iconst (v := nI 1) (by decide) dX12_comesOut_15 ?_
        refine gn_sub (by omega) dX12_comesOut_16 ?_
        rw [Nat.add_sub_cancel]
        refine go_iald (j := V.length) hx.i53 (by omega) (by first | decide | omega) rfl dX12_comesOut_17 ?_
        rw [htop, show rk 27 = 8 by decide]
        refine go_istore_n (q := 2) (i := 2) rfl dX12_comesOut_18 (nle rfl) (nle rfl) ?_
        refine go_iload_n (q := 2) (i := 2) rfl rfl dX12_comesOut_19 ?_
        refine go_bipush (v := nI 6) (by decide) dX12_comesOut_20 ?_
        refine gn_eq (by omega) (by omega) (tgt := 41) dX12_comesOut_22 (by decide) (fun h22 => by exfalso; omega) (fun h22 => ?_)
        refine go_iload_n (q := 1) (i := 1) rfl rfl dX12_comesOut_25 ?_
        refine gz_eq (by omega) (tgt := 42) dX12_comesOut_26 (by decide) (fun h26 => ?_) (fun h26 => by exfalso; omega)
        refine go_aload_n (q := 0) (i := 0) rfl rfl dX12_comesOut_42 ?_
        refine go_dup rfl dX12_comesOut_43 ?_
        refine go_getI lf12_344 rfl hx.o dX12_comesOut_44 ?_
        rw [hlen]
        refine go_iconst (v := nI 1) (by decide) dX12_comesOut_47 ?_
        refine gn_sub (by omega) dX12_comesOut_48 ?_
        rw [Nat.add_sub_cancel]
        refine go_putI lf12_344 rfl (Or.inl rfl) hx.o dX12_comesOut_49 ?_
        have h1 := h.pop
        have c1 : Fe c0 m1 (sI m1 274 (upd (gI m1 274) 54 (nI V.length))) := Fe.p (Or.inr rfl)
        generalize sI m1 274 (upd (gI m1 274) 54 (nI V.length)) = m2 at h1 c1 ⊢
        have hx := c1.wf hx
        refine go_aload_n (q := 0) (i := 0) rfl rfl dX12_comesOut_52 ?_
        refine go_iload_n (q := 2) (i := 2) rfl rfl dX12_comesOut_53 ?_
        refine go_bipush (v := nI 8) (by decide) dX12_comesOut_54 ?_
        refine gn_ne (by omega) (by omega) (tgt := 63) dX12_comesOut_56 (by decide) (fun h56 => by exfalso; omega) (fun h56 => ?_)
        refine go_iconst (v := nI 2) (by decide) dX12_comesOut_59 ?_
        refine go_goto (tgt := 84) dX12_comesOut_60 (by decide) ?_
        refine go_iconst (v := nI 0) (by decide) dX12_comesOut_84 ?_
        refine go_callV okmX12_emit lmX12_347 ⟨nle rfl, nle rfl⟩ hx.o ⟨by decide, rfl⟩ (ex_emit hx h1 (by omega) hc) npmX12_emit rfl (nle rfl) ⟨nle rfl, nle rfl⟩ dX12_comesOut_85 ?_
        rintro _ m3 ⟨rfl, h2, c2⟩
        refine go_c0 ?_
        refine go_goto (tgt := 0) dX12_comesOut_88 (by decide) ?_
        exact ih _ _ _ h2 ((c.tr c1).tr c2) (by omega) (fun j hj => hkV j (List.mem_cons_of_mem _ hj)) (by rw [List.length_append]; show E.length + 1 + V.length ≤ 420; omega) hS
      · rw [show eOut 1 (28 :: V) E = eOut 1 V (E ++ [(28 - 25, 0)]) from if_pos (by decide)] at hS
        refine go_aload_n (q := 0) (i := 0) rfl rfl dX12_comesOut_0 ?_
        refine go_getI lf12_344 rfl hx.o dX12_comesOut_1 ?_
        rw [hlen]
        refine gz_le (by omega) (tgt := 91) dX12_comesOut_4 (by decide) (fun h4 => by exfalso; omega) (fun h4 => ?_)
        refine go_aload_n (q := 0) (i := 0) rfl rfl dX12_comesOut_7 ?_
        refine go_getR lf12_131 rfl hx.o hx.r53 dX12_comesOut_8 ?_
        refine go_aload_n (q := 0) (i := 0) rfl rfl dX12_comesOut_11 ?_
        refine go_getI lf12_344 rfl hx.o dX12_comesOut_12 ?_
        rw [hlen]
        refine go_iconst (v := nI 1) (by decide) dX12_comesOut_15 ?_
        refine gn_sub (by omega) dX12_comesOut_16 ?_
        rw [Nat.add_sub_cancel]
        refine go_iald (j := V.length) hx.i53 (by omega) (by first | decide | omega) rfl dX12_comesOut_17 ?_
        rw [htop, show rk 28 = 9 by decide]
        refine go_istore_n (q := 2) (i := 2) rfl dX12_comesOut_18 (nle rfl) (nle rfl) ?_
        refine go_iload_n (q := 2) (i := 2) rfl rfl dX12_comesOut_19 ?_
        refine go_bipush (v := nI 6) (by decide) dX12_comesOut_20 ?_
        refine gn_eq (by omega) (by omega) (tgt := 41) dX12_comesOut_22 (by decide) (fun h22 => by exfalso; omega) (fun h22 => ?_)
        refine go_iload_n (q := 1) (i := 1) rfl rfl dX12_comesOut_25 ?_
        refine gz_eq (by omega) (tgt := 42) dX12_comesOut_26 (by decide) (fun h26 => ?_) (fun h26 => by exfalso; omega)
        refine go_aload_n (q := 0) (i := 0) rfl rfl dX12_comesOut_42 ?_
        refine go_dup rfl dX12_comesOut_43 ?_
        refine go_getI lf12_344 rfl hx.o dX12_comesOut_44 ?_
        rw [hlen]
        refine go_iconst (v := nI 1) (by decide) dX12_comesOut_47 ?_
        refine gn_sub (by omega) dX12_comesOut_48 ?_
        rw [Nat.add_sub_cancel]
        refine go_putI lf12_344 rfl (Or.inl rfl) hx.o dX12_comesOut_49 ?_
        have h1 := h.pop
        have c1 : Fe c0 m1 (sI m1 274 (upd (gI m1 274) 54 (nI V.length))) := Fe.p (Or.inr rfl)
        generalize sI m1 274 (upd (gI m1 274) 54 (nI V.length)) = m2 at h1 c1 ⊢
        have hx := c1.wf hx
        refine go_aload_n (q := 0) (i := 0) rfl rfl dX12_comesOut_52 ?_
        refine go_iload_n (q := 2) (i := 2) rfl rfl dX12_comesOut_53 ?_
        refine go_bipush (v := nI 8) (by decide) dX12_comesOut_54 ?_
        refine gn_ne (by omega) (by omega) (tgt := 63) dX12_comesOut_56 (by decide) (fun h56 => ?_) (fun h56 => by exfalso; omega)
        refine go_iload_n (q := 2) (i := 2) rfl rfl dX12_comesOut_63 ?_
        refine go_bipush (v := nI 9) (by decide) dX12_comesOut_64 ?_
        refine gn_ne (by omega) (by omega) (tgt := 73) dX12_comesOut_66 (by decide) (fun h66 => by exfalso; omega) (fun h66 => ?_)
        refine go_iconst (v := nI 3) (by decide) dX12_comesOut_69 ?_
        refine go_goto (tgt := 84) dX12_comesOut_70 (by decide) ?_
        refine go_iconst (v := nI 0) (by decide) dX12_comesOut_84 ?_
        refine go_callV okmX12_emit lmX12_347 ⟨nle rfl, nle rfl⟩ hx.o ⟨by decide, rfl⟩ (ex_emit hx h1 (by omega) hc) npmX12_emit rfl (nle rfl) ⟨nle rfl, nle rfl⟩ dX12_comesOut_85 ?_
        rintro _ m3 ⟨rfl, h2, c2⟩
        refine go_c0 ?_
        refine go_goto (tgt := 0) dX12_comesOut_88 (by decide) ?_
        exact ih _ _ _ h2 ((c.tr c1).tr c2) (by omega) (fun j hj => hkV j (List.mem_cons_of_mem _ hj)) (by rw [List.length_append]; show E.length + 1 + V.length ≤ 420; omega) hS
      · rw [show eOut 1 (29 :: V) E = eOut 1 V (E ++ [(29 - 25, 0)]) from if_pos (by decide)] at hS
        refine go_aload_n (q := 0) (i := 0) rfl rfl dX12_comesOut_0 ?_
        refine go_getI lf12_344 rfl hx.o dX12_comesOut_1 ?_
        rw [hlen]
        refine gz_le (by omega) (tgt := 91) dX12_comesOut_4 (by decide) (fun h4 => by exfalso; omega) (fun h4 => ?_)
        refine go_aload_n (q := 0) (i := 0) rfl rfl dX12_comesOut_7 ?_
        refine go_getR lf12_131 rfl hx.o hx.r53 dX12_comesOut_8 ?_
        refine go_aload_n (q := 0) (i := 0) rfl rfl dX12_comesOut_11 ?_
        refine go_getI lf12_344 rfl hx.o dX12_comesOut_12 ?_
        rw [hlen]
        refine go_iconst (v := nI 1) (by decide) dX12_comesOut_15 ?_
        refine gn_sub (by omega) dX12_comesOut_16 ?_
        rw [Nat.add_sub_cancel]
        refine go_iald (j := V.length) hx.i53 (by omega) (by first | decide | omega) rfl dX12_comesOut_17 ?_
        rw [htop, show rk 29 = 10 by decide]
        refine go_istore_n (q := 2) (i := 2) rfl dX12_comesOut_18 (nle rfl) (nle rfl) ?_
        refine go_iload_n (q := 2) (i := 2) rfl rfl dX12_comesOut_19 ?_
        refine go_bipush (v := nI 6) (by decide) dX12_comesOut_20 ?_
        refine gn_eq (by omega) (by omega) (tgt := 41) dX12_comesOut_22 (by decide) (fun h22 => by exfalso; omega) (fun h22 => ?_)
        refine go_iload_n (q := 1) (i := 1) rfl rfl dX12_comesOut_25 ?_
        refine gz_eq (by omega) (tgt := 42) dX12_comesOut_26 (by decide) (fun h26 => ?_) (fun h26 => by exfalso; omega)
        refine go_aload_n (q := 0) (i := 0) rfl rfl dX12_comesOut_42 ?_
        refine go_dup rfl dX12_comesOut_43 ?_
        refine go_getI lf12_344 rfl hx.o dX12_comesOut_44 ?_
        rw [hlen]
        refine go_iconst (v := nI 1) (by decide) dX12_comesOut_47 ?_
        refine gn_sub (by omega) dX12_comesOut_48 ?_
        rw [Nat.add_sub_cancel]
        refine go_putI lf12_344 rfl (Or.inl rfl) hx.o dX12_comesOut_49 ?_
        have h1 := h.pop
        have c1 : Fe c0 m1 (sI m1 274 (upd (gI m1 274) 54 (nI V.length))) := Fe.p (Or.inr rfl)
        generalize sI m1 274 (upd (gI m1 274) 54 (nI V.length)) = m2 at h1 c1 ⊢
        have hx := c1.wf hx
        refine go_aload_n (q := 0) (i := 0) rfl rfl dX12_comesOut_52 ?_
        refine go_iload_n (q := 2) (i := 2) rfl rfl dX12_comesOut_53 ?_
        refine go_bipush (v := nI 8) (by decide) dX12_comesOut_54 ?_
        refine gn_ne (by omega) (by omega) (tgt := 63) dX12_comesOut_56 (by decide) (fun h56 => ?_) (fun h56 => by exfalso; omega)
        refine go_iload_n (q := 2) (i := 2) rfl rfl dX12_comesOut_63 ?_
        refine go_bipush (v := nI 9) (by decide) dX12_comesOut_64 ?_
        refine gn_ne (by omega) (by omega) (tgt := 73) dX12_comesOut_66 (by decide) (fun h66 => ?_) (fun h66 => by exfalso; omega)
        refine go_iload_n (q := 2) (i := 2) rfl rfl dX12_comesOut_73 ?_
        refine go_bipush (v := nI 10) (by decide) dX12_comesOut_74 ?_
        refine gn_ne (by omega) (by omega) (tgt := 83) dX12_comesOut_76 (by decide) (fun h76 => by exfalso; omega) (fun h76 => ?_)
        refine go_iconst (v := nI 4) (by decide) dX12_comesOut_79 ?_
        refine go_goto (tgt := 84) dX12_comesOut_80 (by decide) ?_
        refine go_iconst (v := nI 0) (by decide) dX12_comesOut_84 ?_
        refine go_callV okmX12_emit lmX12_347 ⟨nle rfl, nle rfl⟩ hx.o ⟨by decide, rfl⟩ (ex_emit hx h1 (by omega) hc) npmX12_emit rfl (nle rfl) ⟨nle rfl, nle rfl⟩ dX12_comesOut_85 ?_
        rintro _ m3 ⟨rfl, h2, c2⟩
        refine go_c0 ?_
        refine go_goto (tgt := 0) dX12_comesOut_88 (by decide) ?_
        exact ih _ _ _ h2 ((c.tr c1).tr c2) (by omega) (fun j hj => hkV j (List.mem_cons_of_mem _ hj)) (by rw [List.length_append]; show E.length + 1 + V.length ≤ 420; omega) hS
      · rw [show eOut 1 (30 :: V) E = eOut 1 V (E ++ [(30 - 25, 0)]) from if_pos (by decide)] at hS
        refine go_aload_n (q := 0) (i := 0) rfl rfl dX12_comesOut_0 ?_
        refine go_getI lf12_344 rfl hx.o dX12_comesOut_1 ?_
        rw [hlen]
        refine gz_le (by omega) (tgt := 91) dX12_comesOut_4 (by decide) (fun h4 => by exfalso; omega) (fun h4 => ?_)
        refine go_aload_n (q := 0) (i := 0) rfl rfl dX12_comesOut_7 ?_
        refine go_getR lf12_131 rfl hx.o hx.r53 dX12_comesOut_8 ?_
        refine go_aload_n (q := 0) (i := 0) rfl rfl dX12_comesOut_11 ?_
        refine go_getI lf12_344 rfl hx.o dX12_comesOut_12 ?_
        rw [hlen]
        refine go_iconst (v := nI 1) (by decide) dX12_comesOut_15 ?_
        refine gn_sub (by omega) dX12_comesOut_16 ?_
        rw [Nat.add_sub_cancel]
        refine go_iald (j := V.length) hx.i53 (by omega) (by first | decide | omega) rfl dX12_comesOut_17 ?_
        rw [htop, show rk 30 = 15 by decide]
        refine go_istore_n (q := 2) (i := 2) rfl dX12_comesOut_18 (nle rfl) (nle rfl) ?_
        refine go_iload_n (q := 2) (i := 2) rfl rfl dX12_comesOut_19 ?_
        refine go_bipush (v := nI 6) (by decide) dX12_comesOut_20 ?_
        refine gn_eq (by omega) (by omega) (tgt := 41) dX12_comesOut_22 (by decide) (fun h22 => by exfalso; omega) (fun h22 => ?_)
        refine go_iload_n (q := 1) (i := 1) rfl rfl dX12_comesOut_25 ?_
        refine gz_eq (by omega) (tgt := 42) dX12_comesOut_26 (by decide) (fun h26 => ?_) (fun h26 => by exfalso; omega)
        refine go_aload_n (q := 0) (i := 0) rfl rfl dX12_comesOut_42 ?_
        refine go_dup rfl dX12_comesOut_43 ?_
        refine go_getI lf12_344 rfl hx.o dX12_comesOut_44 ?_
        rw [hlen]
        refine go_iconst (v := nI 1) (by decide) dX12_comesOut_47 ?_
        refine gn_sub (by omega) dX12_comesOut_48 ?_
        rw [Nat.add_sub_cancel]
        refine go_putI lf12_344 rfl (Or.inl rfl) hx.o dX12_comesOut_49 ?_
        have h1 := h.pop
        have c1 : Fe c0 m1 (sI m1 274 (upd (gI m1 274) 54 (nI V.length))) := Fe.p (Or.inr rfl)
        generalize sI m1 274 (upd (gI m1 274) 54 (nI V.length)) = m2 at h1 c1 ⊢
        have hx := c1.wf hx
        refine go_aload_n (q := 0) (i := 0) rfl rfl dX12_comesOut_52 ?_
        refine go_iload_n (q := 2) (i := 2) rfl rfl dX12_comesOut_53 ?_
        refine go_bipush (v := nI 8) (by decide) dX12_comesOut_54 ?_
        refine gn_ne (by omega) (by omega) (tgt := 63) dX12_comesOut_56 (by decide) (fun h56 => ?_) (fun h56 => by exfalso; omega)
        refine go_iload_n (q := 2) (i := 2) rfl rfl dX12_comesOut_63 ?_
        refine go_bipush (v := nI 9) (by decide) dX12_comesOut_64 ?_
        refine gn_ne (by omega) (by omega) (tgt := 73) dX12_comesOut_66 (by decide) (fun h66 => ?_) (fun h66 => by exfalso; omega)
        refine go_iload_n (q := 2) (i := 2) rfl rfl dX12_comesOut_73 ?_
        refine go_bipush (v := nI 10) (by decide) dX12_comesOut_74 ?_
        refine gn_ne (by omega) (by omega) (tgt := 83) dX12_comesOut_76 (by decide) (fun h76 => ?_) (fun h76 => by exfalso; omega)
        refine go_iconst (v := nI 5) (by decide) dX12_comesOut_83 ?_
        refine go_iconst (v := nI 0) (by decide) dX12_comesOut_84 ?_
        refine go_callV okmX12_emit lmX12_347 ⟨nle rfl, nle rfl⟩ hx.o ⟨by decide, rfl⟩ (ex_emit hx h1 (by omega) hc) npmX12_emit rfl (nle rfl) ⟨nle rfl, nle rfl⟩ dX12_comesOut_85 ?_
        rintro _ m3 ⟨rfl, h2, c2⟩
        refine go_c0 ?_
        refine go_goto (tgt := 0) dX12_comesOut_88 (by decide) ?_
        exact ih _ _ _ h2 ((c.tr c1).tr c2) (by omega) (fun j hj => hkV j (List.mem_cons_of_mem _ hj)) (by rw [List.length_append]; show E.length + 1 + V.length ≤ 420; omega) hS
  exact key W D m _ h Fe.rf hw hk hd rfl
set_option maxRecDepth 100000 in
set_option maxHeartbeats 8000000 in
theorem ex_out1 {m : Me} {c0 : Nat} {W : List Nat} {D : List (Nat × Nat)} (hx : Wf12 m.1 (gR m)) (h : RC m c0 W D) (hc : c0 ≤ 420) (hw : W.length ≤ 24) (hk : ∀ k ∈ W, wO k) (hd : D.length + W.length ≤ 420) : Ev mX12_comesOut [.ref 274, .int (nI 1)] m (fun o m' => o = none ∧ RC m' c0 (eOut 2 W D).1 (eOut 2 W D).2 ∧ Fe c0 m m') := by
  refine ⟨plmX12_comesOut, nle rfl, ?_⟩
  have key : ∀ (V : List Nat) (E : List (Nat × Nat)) (m1 : Me) (x2 : Option Value), RC m1 c0 V E → Fe c0 m m1 → V.length ≤ 24 → (∀ k ∈ V, wO k) → E.length + V.length ≤ 420 → eOut 2 V E = eOut 2 W D → Go mX12_comesOut (fun o m' => o = none ∧ RC m' c0 (eOut 2 W D).1 (eOut 2 W D).2 ∧ Fe c0 m m') 0 [some (.ref 274), some (.int (nI 1)), x2] [] m1 0 0 := by
    intro V
    induction V with
    | nil =>
      intro E m1 x2 h c _ _ _ hS
      have hx := c.wf hx
      rw [show eOut 2 [] E = ([], E) from rfl] at hS
      refine go_aload_n (q := 0) (i := 0) rfl rfl dX12_comesOut_0 ?_
      refine go_getI lf12_344 rfl hx.o dX12_comesOut_1 ?_
      rw [show gI m1 274 54 = nI 0 from h.2.2.1]
      refine gz_le (by omega) (tgt := 91) dX12_comesOut_4 (by decide) (fun h4 => ?_) (fun h4 => by exfalso; omega)
      refine go_vret rfl ⟨Nat.zero_le _, Nat.zero_le _⟩ dX12_comesOut_91 ?_
      rw [← hS]
      exact ⟨rfl, h, c⟩
    | cons k V ih =>
      intro E m1 x2 h c hV hkV hd hS
      have hx := c.wf hx
      have hV1 : V.length + 1 ≤ 24 := hV
      have hd1 : E.length + (V.length + 1) ≤ 420 := hd
      have htop := h.top
      have hlen : gI m1 274 54 = nI (V.length + 1) := h.2.2.1
      rcases hkV k (List.mem_cons_self) with rfl | rfl | rfl | rfl | rfl
      · rw [show eOut 2 (32 :: V) E = (32 :: V, E) from if_neg (by decide)] at hS
        refine go_aload_n (q := 0) (i := 0) rfl rfl dX12_comesOut_0 ?_
        refine go_getI lf12_344 rfl hx.o dX12_comesOut_1 ?_
        rw [hlen]
        refine gz_le (by omega) (tgt := 91) dX12_comesOut_4 (by decide) (fun h4 => by exfalso; omega) (fun h4 => ?_)
        refine go_aload_n (q := 0) (i := 0) rfl rfl dX12_comesOut_7 ?_
        refine go_getR lf12_131 rfl hx.o hx.r53 dX12_comesOut_8 ?_
        refine go_aload_n (q := 0) (i := 0) rfl rfl dX12_comesOut_11 ?_
        refine go_getI lf12_344 rfl hx.o dX12_comesOut_12 ?_
        rw [hlen]
        refine go_iconst (v := nI 1) (by decide) dX12_comesOut_15 ?_
        refine gn_sub (by omega) dX12_comesOut_16 ?_
        rw [Nat.add_sub_cancel]
        refine go_iald (j := V.length) hx.i53 (by omega) (by first | decide | omega) rfl dX12_comesOut_17 ?_
        rw [htop, show rk 32 = 6 by decide]
        refine go_istore_n (q := 2) (i := 2) rfl dX12_comesOut_18 (nle rfl) (nle rfl) ?_
        refine go_iload_n (q := 2) (i := 2) rfl rfl dX12_comesOut_19 ?_
        refine go_bipush (v := nI 6) (by decide) dX12_comesOut_20 ?_
        refine gn_eq (by omega) (by omega) (tgt := 41) dX12_comesOut_22 (by decide) (fun h22 => ?_) (fun h22 => by exfalso; omega)
        refine go_vret rfl ⟨Nat.zero_le _, Nat.zero_le _⟩ dX12_comesOut_41 ?_
        rw [← hS]
        exact ⟨rfl, h, c⟩
      · rw [show eOut 2 (27 :: V) E = (27 :: V, E) from if_neg (by decide)] at hS
        refine go_aload_n (q := 0) (i := 0) rfl rfl dX12_comesOut_0 ?_
        refine go_getI lf12_344 rfl hx.o dX12_comesOut_1 ?_
        rw [hlen]
        refine gz_le (by omega) (tgt := 91) dX12_comesOut_4 (by decide) (fun h4 => by exfalso; omega) (fun h4 => ?_)
        refine go_aload_n (q := 0) (i := 0) rfl rfl dX12_comesOut_7 ?_
        refine go_getR lf12_131 rfl hx.o hx.r53 dX12_comesOut_8 ?_
        refine go_aload_n (q := 0) (i := 0) rfl rfl dX12_comesOut_11 ?_
        refine go_getI lf12_344 rfl hx.o dX12_comesOut_12 ?_
        rw [hlen]
        refine go_iconst (v := nI 1) (by decide) dX12_comesOut_15 ?_
        refine gn_sub (by omega) dX12_comesOut_16 ?_
        rw [Nat.add_sub_cancel]
        refine go_iald (j := V.length) hx.i53 (by omega) (by first | decide | omega) rfl dX12_comesOut_17 ?_
        rw [htop, show rk 27 = 8 by decide]
        refine go_istore_n (q := 2) (i := 2) rfl dX12_comesOut_18 (nle rfl) (nle rfl) ?_
        refine go_iload_n (q := 2) (i := 2) rfl rfl dX12_comesOut_19 ?_
        refine go_bipush (v := nI 6) (by decide) dX12_comesOut_20 ?_
        refine gn_eq (by omega) (by omega) (tgt := 41) dX12_comesOut_22 (by decide) (fun h22 => by exfalso; omega) (fun h22 => ?_)
        refine go_iload_n (q := 1) (i := 1) rfl rfl dX12_comesOut_25 ?_
        refine gz_eq (by omega) (tgt := 42) dX12_comesOut_26 (by decide) (fun h26 => by exfalso; omega) (fun h26 => ?_)
        refine go_iload_n (q := 2) (i := 2) rfl rfl dX12_comesOut_29 ?_
        refine go_bipush (v := nI 8) (by decide) dX12_comesOut_30 ?_
        refine gn_eq (by omega) (by omega) (tgt := 41) dX12_comesOut_32 (by decide) (fun h32 => ?_) (fun h32 => by exfalso; omega)
        refine go_vret rfl ⟨Nat.zero_le _, Nat.zero_le _⟩ dX12_comesOut_41 ?_
        rw [← hS]
        exact ⟨rfl, h, c⟩
      · rw [show eOut 2 (28 :: V) E = (28 :: V, E) from if_neg (by decide)] at hS
        refine go_aload_n (q := 0) (i := 0) rfl rfl dX12_comesOut_0 ?_
        refine go_getI lf12_344 rfl hx.o dX12_comesOut_1 ?_
        rw [hlen]
        refine gz_le (by omega) (tgt := 91) dX12_comesOut_4 (by decide) (fun h4 => by exfalso; omega) (fun h4 => ?_)
        refine go_aload_n (q := 0) (i := 0) rfl rfl dX12_comesOut_7 ?_
        refine go_getR lf12_131 rfl hx.o hx.r53 dX12_comesOut_8 ?_
        refine go_aload_n (q := 0) (i := 0) rfl rfl dX12_comesOut_11 ?_
        refine go_getI lf12_344 rfl hx.o dX12_comesOut_12 ?_
        rw [hlen]
        refine go_iconst (v := nI 1) (by decide) dX12_comesOut_15 ?_
        refine gn_sub (by omega) dX12_comesOut_16 ?_
        rw [Nat.add_sub_cancel]
        refine go_iald (j := V.length) hx.i53 (by omega) (by first | decide | omega) rfl dX12_comesOut_17 ?_
        rw [htop, show rk 28 = 9 by decide]
        refine go_istore_n (q := 2) (i := 2) rfl dX12_comesOut_18 (nle rfl) (nle rfl) ?_
        refine go_iload_n (q := 2) (i := 2) rfl rfl dX12_comesOut_19 ?_
        refine go_bipush (v := nI 6) (by decide) dX12_comesOut_20 ?_
        refine gn_eq (by omega) (by omega) (tgt := 41) dX12_comesOut_22 (by decide) (fun h22 => by exfalso; omega) (fun h22 => ?_)
        refine go_iload_n (q := 1) (i := 1) rfl rfl dX12_comesOut_25 ?_
        refine gz_eq (by omega) (tgt := 42) dX12_comesOut_26 (by decide) (fun h26 => by exfalso; omega) (fun h26 => ?_)
        refine go_iload_n (q := 2) (i := 2) rfl rfl dX12_comesOut_29 ?_
        refine go_bipush (v := nI 8) (by decide) dX12_comesOut_30 ?_
        refine gn_eq (by omega) (by omega) (tgt := 41) dX12_comesOut_32 (by decide) (fun h32 => by exfalso; omega) (fun h32 => ?_)
        refine go_iload_n (q := 2) (i := 2) rfl rfl dX12_comesOut_35 ?_
        refine go_bipush (v := nI 9) (by decide) dX12_comesOut_36 ?_
        refine gn_ne (by omega) (by omega) (tgt := 42) dX12_comesOut_38 (by decide) (fun h38 => by exfalso; omega) (fun h38 => ?_)
        refine go_vret rfl ⟨Nat.zero_le _, Nat.zero_le _⟩ dX12_comesOut_41 ?_
        rw [← hS]
        exact ⟨rfl, h, c⟩
      · rw [show eOut 2 (29 :: V) E = eOut 2 V (E ++ [(29 - 25, 0)]) from if_pos (by decide)] at hS
        refine go_aload_n (q := 0) (i := 0) rfl rfl dX12_comesOut_0 ?_
        refine go_getI lf12_344 rfl hx.o dX12_comesOut_1 ?_
        rw [hlen]
        refine gz_le (by omega) (tgt := 91) dX12_comesOut_4 (by decide) (fun h4 => by exfalso; omega) (fun h4 => ?_)
        refine go_aload_n (q := 0) (i := 0) rfl rfl dX12_comesOut_7 ?_
        refine go_getR lf12_131 rfl hx.o hx.r53 dX12_comesOut_8 ?_
        refine go_aload_n (q := 0) (i := 0) rfl rfl dX12_comesOut_11 ?_
        refine go_getI lf12_344 rfl hx.o dX12_comesOut_12 ?_
        rw [hlen]
        refine go_iconst (v := nI 1) (by decide) dX12_comesOut_15 ?_
        refine gn_sub (by omega) dX12_comesOut_16 ?_
        rw [Nat.add_sub_cancel]
        refine go_iald (j := V.length) hx.i53 (by omega) (by first | decide | omega) rfl dX12_comesOut_17 ?_
        rw [htop, show rk 29 = 10 by decide]
        refine go_istore_n (q := 2) (i := 2) rfl dX12_comesOut_18 (nle rfl) (nle rfl) ?_
        refine go_iload_n (q := 2) (i := 2) rfl rfl dX12_comesOut_19 ?_
        refine go_bipush (v := nI 6) (by decide) dX12_comesOut_20 ?_
        refine gn_eq (by omega) (by omega) (tgt := 41) dX12_comesOut_22 (by decide) (fun h22 => by exfalso; omega) (fun h22 => ?_)
        refine go_iload_n (q := 1) (i := 1) rfl rfl dX12_comesOut_25 ?_
        refine gz_eq (by omega) (tgt := 42) dX12_comesOut_26 (by decide) (fun h26 => by exfalso; omega) (fun h26 => ?_)
        refine go_iload_n (q := 2) (i := 2) rfl rfl dX12_comesOut_29 ?_
        refine go_bipush (v := nI 8) (by decide) dX12_comesOut_30 ?_
        refine gn_eq (by omega) (by omega) (tgt := 41) dX12_comesOut_32 (by decide) (fun h32 => by exfalso; omega) (fun h32 => ?_)
        refine go_iload_n (q := 2) (i := 2) rfl rfl dX12_comesOut_35 ?_
        refine go_bipush (v := nI 9) (by decide) dX12_comesOut_36 ?_
        refine gn_ne (by omega) (by omega) (tgt := 42) dX12_comesOut_38 (by decide) (fun h38 => ?_) (fun h38 => by exfalso; omega)
        refine go_aload_n (q := 0) (i := 0) rfl rfl dX12_comesOut_42 ?_
        refine go_dup rfl dX12_comesOut_43 ?_
        refine go_getI lf12_344 rfl hx.o dX12_comesOut_44 ?_
        rw [hlen]
        refine go_iconst (v := nI 1) (by decide) dX12_comesOut_47 ?_
        refine gn_sub (by omega) dX12_comesOut_48 ?_
        rw [Nat.add_sub_cancel]
        refine go_putI lf12_344 rfl (Or.inl rfl) hx.o dX12_comesOut_49 ?_
        have h1 := h.pop
        have c1 : Fe c0 m1 (sI m1 274 (upd (gI m1 274) 54 (nI V.length))) := Fe.p (Or.inr rfl)
        generalize sI m1 274 (upd (gI m1 274) 54 (nI V.length)) = m2 at h1 c1 ⊢
        have hx := c1.wf hx
        refine go_aload_n (q := 0) (i := 0) rfl rfl dX12_comesOut_52 ?_
        refine go_iload_n (q := 2) (i := 2) rfl rfl dX12_comesOut_53 ?_
        refine go_bipush (v := nI 8) (by decide) dX12_comesOut_54 ?_
        refine gn_ne (by omega) (by omega) (tgt := 63) dX12_comesOut_56 (by decide) (fun h56 => ?_) (fun h56 => by exfalso; omega)
        refine go_iload_n (q := 2) (i := 2) rfl rfl dX12_comesOut_63 ?_
        refine go_bipush (v := nI 9) (by decide) dX12_comesOut_64 ?_
        refine gn_ne (by omega) (by omega) (tgt := 73) dX12_comesOut_66 (by decide) (fun h66 => ?_) (fun h66 => by exfalso; omega)
        refine go_iload_n (q := 2) (i := 2) rfl rfl dX12_comesOut_73 ?_
        refine go_bipush (v := nI 10) (by decide) dX12_comesOut_74 ?_
        refine gn_ne (by omega) (by omega) (tgt := 83) dX12_comesOut_76 (by decide) (fun h76 => by exfalso; omega) (fun h76 => ?_)
        refine go_iconst (v := nI 4) (by decide) dX12_comesOut_79 ?_
        refine go_goto (tgt := 84) dX12_comesOut_80 (by decide) ?_
        refine go_iconst (v := nI 0) (by decide) dX12_comesOut_84 ?_
        refine go_callV okmX12_emit lmX12_347 ⟨nle rfl, nle rfl⟩ hx.o ⟨by decide, rfl⟩ (ex_emit hx h1 (by omega) hc) npmX12_emit rfl (nle rfl) ⟨nle rfl, nle rfl⟩ dX12_comesOut_85 ?_
        rintro _ m3 ⟨rfl, h2, c2⟩
        refine go_c0 ?_
        refine go_goto (tgt := 0) dX12_comesOut_88 (by decide) ?_
        exact ih _ _ _ h2 ((c.tr c1).tr c2) (by omega) (fun j hj => hkV j (List.mem_cons_of_mem _ hj)) (by rw [List.length_append]; show E.length + 1 + V.length ≤ 420; omega) hS
      · rw [show eOut 2 (30 :: V) E = eOut 2 V (E ++ [(30 - 25, 0)]) from if_pos (by decide)] at hS
        refine go_aload_n (q := 0) (i := 0) rfl rfl dX12_comesOut_0 ?_
        refine go_getI lf12_344 rfl hx.o dX12_comesOut_1 ?_
        rw [hlen]
        refine gz_le (by omega) (tgt := 91) dX12_comesOut_4 (by decide) (fun h4 => by exfalso; omega) (fun h4 => ?_)
        refine go_aload_n (q := 0) (i := 0) rfl rfl dX12_comesOut_7 ?_
        refine go_getR lf12_131 rfl hx.o hx.r53 dX12_comesOut_8 ?_
        refine go_aload_n (q := 0) (i := 0) rfl rfl dX12_comesOut_11 ?_
        refine go_getI lf12_344 rfl hx.o dX12_comesOut_12 ?_
        rw [hlen]
        refine go_iconst (v := nI 1) (by decide) dX12_comesOut_15 ?_
        refine gn_sub (by omega) dX12_comesOut_16 ?_
        rw [Nat.add_sub_cancel]
        refine go_iald (j := V.length) hx.i53 (by omega) (by first | decide | omega) rfl dX12_comesOut_17 ?_
        rw [htop, show rk 30 = 15 by decide]
        refine go_istore_n (q := 2) (i := 2) rfl dX12_comesOut_18 (nle rfl) (nle rfl) ?_
        refine go_iload_n (q := 2) (i := 2) rfl rfl dX12_comesOut_19 ?_
        refine go_bipush (v := nI 6) (by decide) dX12_comesOut_20 ?_
        refine gn_eq (by omega) (by omega) (tgt := 41) dX12_comesOut_22 (by decide) (fun h22 => by exfalso; omega) (fun h22 => ?_)
        refine go_iload_n (q := 1) (i := 1) rfl rfl dX12_comesOut_25 ?_
        refine gz_eq (by omega) (tgt := 42) dX12_comesOut_26 (by decide) (fun h26 => by exfalso; omega) (fun h26 => ?_)
        refine go_iload_n (q := 2) (i := 2) rfl rfl dX12_comesOut_29 ?_
        refine go_bipush (v := nI 8) (by decide) dX12_comesOut_30 ?_
        refine gn_eq (by omega) (by omega) (tgt := 41) dX12_comesOut_32 (by decide) (fun h32 => by exfalso; omega) (fun h32 => ?_)
        refine go_iload_n (q := 2) (i := 2) rfl rfl dX12_comesOut_35 ?_
        refine go_bipush (v := nI 9) (by decide) dX12_comesOut_36 ?_
        refine gn_ne (by omega) (by omega) (tgt := 42) dX12_comesOut_38 (by decide) (fun h38 => ?_) (fun h38 => by exfalso; omega)
        refine go_aload_n (q := 0) (i := 0) rfl rfl dX12_comesOut_42 ?_
        refine go_dup rfl dX12_comesOut_43 ?_
        refine go_getI lf12_344 rfl hx.o dX12_comesOut_44 ?_
        rw [hlen]
        refine go_iconst (v := nI 1) (by decide) dX12_comesOut_47 ?_
        refine gn_sub (by omega) dX12_comesOut_48 ?_
        rw [Nat.add_sub_cancel]
        refine go_putI lf12_344 rfl (Or.inl rfl) hx.o dX12_comesOut_49 ?_
        have h1 := h.pop
        have c1 : Fe c0 m1 (sI m1 274 (upd (gI m1 274) 54 (nI V.length))) := Fe.p (Or.inr rfl)
        generalize sI m1 274 (upd (gI m1 274) 54 (nI V.length)) = m2 at h1 c1 ⊢
        have hx := c1.wf hx
        refine go_aload_n (q := 0) (i := 0) rfl rfl dX12_comesOut_52 ?_
        refine go_iload_n (q := 2) (i := 2) rfl rfl dX12_comesOut_53 ?_
        refine go_bipush (v := nI 8) (by decide) dX12_comesOut_54 ?_
        refine gn_ne (by omega) (by omega) (tgt := 63) dX12_comesOut_56 (by decide) (fun h56 => ?_) (fun h56 => by exfalso; omega)
        refine go_iload_n (q := 2) (i := 2) rfl rfl dX12_comesOut_63 ?_
        refine go_bipush (v := nI 9) (by decide) dX12_comesOut_64 ?_
        refine gn_ne (by omega) (by omega) (tgt := 73) dX12_comesOut_66 (by decide) (fun h66 => ?_) (fun h66 => by exfalso; omega)
        refine go_iload_n (q := 2) (i := 2) rfl rfl dX12_comesOut_73 ?_
        refine go_bipush (v := nI 10) (by decide) dX12_comesOut_74 ?_
        refine gn_ne (by omega) (by omega) (tgt := 83) dX12_comesOut_76 (by decide) (fun h76 => ?_) (fun h76 => by exfalso; omega)
        refine go_iconst (v := nI 5) (by decide) dX12_comesOut_83 ?_
        refine go_iconst (v := nI 0) (by decide) dX12_comesOut_84 ?_
        refine go_callV okmX12_emit lmX12_347 ⟨nle rfl, nle rfl⟩ hx.o ⟨by decide, rfl⟩ (ex_emit hx h1 (by omega) hc) npmX12_emit rfl (nle rfl) ⟨nle rfl, nle rfl⟩ dX12_comesOut_85 ?_
        rintro _ m3 ⟨rfl, h2, c2⟩
        refine go_c0 ?_
        refine go_goto (tgt := 0) dX12_comesOut_88 (by decide) ?_
        exact ih _ _ _ h2 ((c.tr c1).tr c2) (by omega) (fun j hj => hkV j (List.mem_cons_of_mem _ hj)) (by rw [List.length_append]; show E.length + 1 + V.length ≤ 420; omega) hS
  exact key W D m _ h Fe.rf hw hk hd rfl
