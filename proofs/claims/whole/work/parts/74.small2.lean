theorem gw_15 {m : Me} {a : Nat} {r : Nat → Int32} (h : 20 < a) : gw (sI m a r) 15 = gw m 15 := by
  unfold gw
  rw [gI_n (by omega), gI_n (by omega), gI_n (by omega), gI_n (by omega), gI_n (by omega), gI_n (by omega)]
set_option maxRecDepth 100000 in
set_option maxHeartbeats 4000000 in
theorem ev_giveBack {m : Me} {x s : Nat} (hp : Wf6 m.1 (gR m) 27) (hw : Wf1 m.1 (gR m) 15) (hx30 : x < 30) (hs0 : 0 < s) (hs30 : s ≤ 30) (h1 : gI m 27 1 = nI x) (h2 : gI m 27 2 = nI s) : Ev mX6_giveBack [.ref 27, .ref 15] m (fun o m' => o = some (.int (nI 1)) ∧ Ch (fun y => (15 ≤ y ∧ y ≤ 20) ∨ y = 27) m m' ∧ gI m' 27 1 = nI ((x + 29) % 30) ∧ gI m' 27 2 = nI (s - 1) ∧ gw m' 15 = gw m (29 + 6 * ((x + 29) % 30))) := by
  refine ⟨plmX6_giveBack, nle rfl, ?_⟩
  refine go_aload_n (q := 0) (i := 0) rfl rfl dX6_giveBack_0 ?_
  refine go_getI lf6_22 rfl hp.o dX6_giveBack_1 ?_
  rw [h1]
  refine go_bipush (v := nI 30) (by decide) dX6_giveBack_4 ?_
  refine gn_add dX6_giveBack_6 ?_
  refine go_iconst (v := nI 1) (by decide) dX6_giveBack_7 ?_
  refine gn_sub (by omega) dX6_giveBack_8 ?_
  refine go_bipush (v := nI 30) (by decide) dX6_giveBack_9 ?_
  refine gn_rem (by omega) (by omega) (by omega) dX6_giveBack_11 ?_
  rw [show (x + 30 - 1) % 30 = (x + 29) % 30 by omega]
  refine go_istore_n (q := 2) (i := 2) rfl dX6_giveBack_12 (nle rfl) (nle rfl) ?_
  refine go_aload_n (q := 0) (i := 0) rfl rfl dX6_giveBack_13 ?_
  refine go_getI lf6_18 rfl hp.o dX6_giveBack_14 ?_
  rw [h2]
  refine gz_le (by omega) (tgt := 24) dX6_giveBack_17 (by decide) (fun h17 => by exfalso; omega) (fun h17 => ?_)
  refine go_iload_n (q := 2) (i := 2) rfl rfl dX6_giveBack_20 ?_
  refine gz_ge (by omega) (tgt := 26) dX6_giveBack_21 (by decide) (fun h21 => ?_) (fun h21 => by exfalso; omega)
  refine go_aload_n (q := 1) (i := 1) rfl rfl dX6_giveBack_26 ?_
  refine go_aload_n (q := 0) (i := 0) rfl rfl dX6_giveBack_27 ?_
  refine go_getR lf6_11 rfl hp.o hp.r0 dX6_giveBack_28 ?_
  refine go_iload_n (q := 2) (i := 2) rfl rfl dX6_giveBack_31 ?_
  refine go_aald (j := (((x + 29) % 30))) hp.i0 (by omega) (by first | decide | omega) rfl (hp.ring ((x + 29) % 30) (Nat.mod_lt _ (by decide))).1 dX6_giveBack_32 ?_
  refine go_callV okmX1_copyFrom lmX6_25 ⟨nle rfl, nle rfl⟩ hw.o ⟨by decide, rfl⟩ (ev_copyFrom hw (hp.ring ((x + 29) % 30) (Nat.mod_lt _ (by decide))).2 (by omega)) npmX1_copyFrom rfl (nle rfl) ⟨nle rfl, nle rfl⟩ dX6_giveBack_33 ?_
  rintro _ m1 ⟨rfl, cA, eA⟩
  have hp0 := hp
  have hp : Wf6 m1.1 (gR m1) 27 := Ch.to (F := fun n R => Wf6 n R 27) cA hp0
  refine go_c0 ?_
  refine go_aload_n (q := 0) (i := 0) rfl rfl dX6_giveBack_36 ?_
  refine go_iload_n (q := 2) (i := 2) rfl rfl dX6_giveBack_37 ?_
  refine go_putI lf6_22 rfl (Or.inl rfl) hp.o dX6_giveBack_38 ?_
  refine go_aload_n (q := 0) (i := 0) rfl rfl dX6_giveBack_41 ?_
  refine go_dup rfl dX6_giveBack_42 ?_
  refine go_getI lf6_18 rfl hp.o dX6_giveBack_43 ?_
  rw [gI_s, upd_ne (by decide), cA.at (show ¬ _ by omega), h2]
  refine go_iconst (v := nI 1) (by decide) dX6_giveBack_46 ?_
  refine gn_sub (by omega) dX6_giveBack_47 ?_
  refine go_putI lf6_18 rfl (Or.inl rfl) hp.o dX6_giveBack_48 ?_
  refine go_iconst (v := nI 1) (by decide) dX6_giveBack_51 ?_
  refine go_zret rfl (by decide) ⟨Nat.zero_le _, Nat.zero_le _⟩ dX6_giveBack_52 ?_
  refine ⟨rfl, (cA.mn (fun y hy => Or.inl hy)).tr (Ch.i (Ch.i Ch.rf (Or.inr rfl)) (Or.inr rfl)), ?_, ?_, ?_⟩
  · rw [gI_s, upd_ne (by decide), gI_s, upd_eq]
  · rw [gI_s, upd_eq]
  · rw [gw_15 (by decide), gw_15 (by decide)]; exact eA
set_option maxRecDepth 100000 in
set_option maxHeartbeats 4000000 in
theorem ev_giveBack0 {m : Me} {x : Nat} (hp : Wf6 m.1 (gR m) 27) (hw : Wf1 m.1 (gR m) 15) (hx30 : x < 30) (h1 : gI m 27 1 = nI x) (h2 : gI m 27 2 = nI 0) : Ev mX6_giveBack [.ref 27, .ref 15] m (fun o m' => o = some (.int (nI 0)) ∧ m' = m) := by
  refine ⟨plmX6_giveBack, nle rfl, ?_⟩
  refine go_aload_n (q := 0) (i := 0) rfl rfl dX6_giveBack_0 ?_
  refine go_getI lf6_22 rfl hp.o dX6_giveBack_1 ?_
  rw [h1]
  refine go_bipush (v := nI 30) (by decide) dX6_giveBack_4 ?_
  refine gn_add dX6_giveBack_6 ?_
  refine go_iconst (v := nI 1) (by decide) dX6_giveBack_7 ?_
  refine gn_sub (by omega) dX6_giveBack_8 ?_
  refine go_bipush (v := nI 30) (by decide) dX6_giveBack_9 ?_
  refine gn_rem (by omega) (by omega) (by omega) dX6_giveBack_11 ?_
  rw [show (x + 30 - 1) % 30 = (x + 29) % 30 by omega]
  refine go_istore_n (q := 2) (i := 2) rfl dX6_giveBack_12 (nle rfl) (nle rfl) ?_
  refine go_aload_n (q := 0) (i := 0) rfl rfl dX6_giveBack_13 ?_
  refine go_getI lf6_18 rfl hp.o dX6_giveBack_14 ?_
  rw [h2]
  refine gz_le (by omega) (tgt := 24) dX6_giveBack_17 (by decide) (fun h17 => ?_) (fun h17 => by exfalso; omega)
  refine go_iconst (v := nI 0) (by decide) dX6_giveBack_24 ?_
  refine go_zret rfl (by decide) ⟨Nat.zero_le _, Nat.zero_le _⟩ dX6_giveBack_25 ?_
  exact ⟨rfl, rfl⟩
set_option maxRecDepth 100000 in
set_option maxHeartbeats 4000000 in
theorem ev_undo {m : Me} {pl dr : Nat} (hX : CX m.1 (gR m) pl dr) {x s : Nat} (hx30 : x < 30) (hs0 : 0 < s) (hs30 : s ≤ 30) (h1 : gI m 27 1 = nI x) (h2 : gI m 27 2 = nI s) : Ev mX11_undo [.ref 0] m (fun o m' => o = some (.int (nI 1)) ∧ Ch (fun y => (15 ≤ y ∧ y ≤ 20) ∨ y = 27) m m' ∧ gI m' 27 1 = nI ((x + 29) % 30) ∧ gI m' 27 2 = nI (s - 1) ∧ gw m' 15 = gw m (29 + 6 * ((x + 29) % 30))) := by
  refine ⟨plmX11_undo, nle rfl, ?_⟩
  refine go_aload_n (q := 0) (i := 0) rfl rfl dX11_undo_0 ?_
  refine go_getR lf11_57 rfl hX.o hX.r7 dX11_undo_1 ?_
  refine go_aload_n (q := 0) (i := 0) rfl rfl dX11_undo_4 ?_
  refine go_getR lf11_47 rfl hX.o hX.r5 dX11_undo_5 ?_
  refine go_callV okmX6_giveBack lmX11_215 ⟨nle rfl, nle rfl⟩ hX.w7.o ⟨by decide, rfl⟩ (ev_giveBack hX.w7 hX.w5 hx30 hs0 hs30 h1 h2) npmX6_giveBack rfl (nle rfl) ⟨nle rfl, nle rfl⟩ dX11_undo_8 ?_
  rintro _ m1 ⟨rfl, hz⟩
  refine go_c1 ?_
  refine go_zret rfl (by decide) ⟨Nat.zero_le _, Nat.zero_le _⟩ dX11_undo_11 ?_
  exact ⟨rfl, hz⟩
set_option maxRecDepth 100000 in
set_option maxHeartbeats 4000000 in
theorem ev_undo0 {m : Me} {pl dr : Nat} (hX : CX m.1 (gR m) pl dr) {x : Nat} (hx30 : x < 30) (h1 : gI m 27 1 = nI x) (h2 : gI m 27 2 = nI 0) : Ev mX11_undo [.ref 0] m (fun o m' => o = some (.int (nI 0)) ∧ m' = m) := by
  refine ⟨plmX11_undo, nle rfl, ?_⟩
  refine go_aload_n (q := 0) (i := 0) rfl rfl dX11_undo_0 ?_
  refine go_getR lf11_57 rfl hX.o hX.r7 dX11_undo_1 ?_
  refine go_aload_n (q := 0) (i := 0) rfl rfl dX11_undo_4 ?_
  refine go_getR lf11_47 rfl hX.o hX.r5 dX11_undo_5 ?_
  refine go_callV okmX6_giveBack lmX11_215 ⟨nle rfl, nle rfl⟩ hX.w7.o ⟨by decide, rfl⟩ (ev_giveBack0 hX.w7 hX.w5 hx30 h1 h2) npmX6_giveBack rfl (nle rfl) ⟨nle rfl, nle rfl⟩ dX11_undo_8 ?_
  rintro _ m1 ⟨rfl, hz⟩
  refine go_c1 ?_
  refine go_zret rfl (by decide) ⟨Nat.zero_le _, Nat.zero_le _⟩ dX11_undo_11 ?_
  exact ⟨rfl, hz⟩
set_option maxRecDepth 100000 in
set_option maxHeartbeats 8000000 in
theorem ex_undo {m : Me} (hx : Wf12 m.1 (gR m)) {u : Nat} (hu0 : 0 < u) (hu : u ≤ 30) (h1 : gI m 274 63 = nI u) : Ev mX12_undo [.ref 274] m (fun o m' => o = some (.int (nI 1)) ∧ Ch (fun y => y = 274 ∨ y = 315) m m' ∧ (∀ k, k ≠ 63 → gI m' 274 k = gI m 274 k) ∧ gI m' 274 63 = nI (u - 1) ∧ ∀ k, k < 105 → gI m' 315 k = hrw m (u - 1) k) := by
  refine ⟨plmX12_undo, nle rfl, ?_⟩
  refine go_aload_n (q := 0) (i := 0) rfl rfl dX12_undo_0 ?_
  refine go_getI lf12_286 rfl hx.o dX12_undo_1 ?_
  rw [h1]
  refine gz_ne (by omega) (tgt := 9) dX12_undo_4 (by decide) (fun h4 => ?_) (fun h4 => by exfalso; omega)
  refine go_aload_n (q := 0) (i := 0) rfl rfl dX12_undo_9 ?_
  refine go_dup rfl dX12_undo_10 ?_
  refine go_getI lf12_286 rfl hx.o dX12_undo_11 ?_
  rw [h1]
  refine go_iconst (v := nI 1) (by decide) dX12_undo_14 ?_
  refine gn_sub (by omega) dX12_undo_15 ?_
  refine go_putI lf12_286 rfl (Or.inl rfl) hx.o dX12_undo_16 ?_
  generalize hmA : sI m 274 _ = mA
  have cA : Ch (fun y => y = 274) m mA := by rw [← hmA]; exact Ch.I rfl
  have hxA := CX12 cA hx
  refine go_iconst (v := nI 0) (by decide) dX12_undo_19 ?_
  refine go_istore_n (q := 1) (i := 1) rfl dX12_undo_20 (nle rfl) (nle rfl) ?_
  have key : ∀ k, k ≤ 105 → ∀ mk : Me, Ch (fun x => x = 315) mA mk → (∀ z, z < k → gI mk 315 z = gI mA 318 (105 * (u - 1) + z)) → Go mX12_undo (fun o m' => o = some (.int (nI 1)) ∧ Ch (fun y => y = 274 ∨ y = 315) m m' ∧ (∀ k, k ≠ 63 → gI m' 274 k = gI m 274 k) ∧ gI m' 274 63 = nI (u - 1) ∧ ∀ k, k < 105 → gI m' 315 k = hrw m (u - 1) k) 21 [some (.ref 274), some (.int (nI k))] [] mk 0 0 := by
    refine loop_up 105 ?_ ?_
    · intro mk ck hk
      have hx := CX12 ck hxA
      refine go_iload_n (q := 1) (i := 1) rfl rfl dX12_undo_21 ?_
      refine go_bipush (v := nI 105) (by decide) dX12_undo_22 ?_
      refine gn_ge (by omega) (by omega) (tgt := 53) dX12_undo_24 (by decide) (fun h24 => ?_) (fun h24 => by exfalso; omega)
      refine go_iconst (v := nI 1) (by decide) dX12_undo_53 ?_
      refine go_zret rfl (by decide) ⟨Nat.zero_le _, Nat.zero_le _⟩ dX12_undo_54 ?_
      refine ⟨rfl, (cA.mn (fun x z => Or.inl z)).tr (ck.mn (fun x z => Or.inr z)), fun k hk_ => ?_, ?_, fun k hk_ => ?_⟩
      · rw [ck.at (by omega), ← hmA, gI_s, upd_ne hk_]
      · rw [ck.at (by omega), ← hmA, gI_s, upd_eq]
      · rw [hk k hk_]
        unfold hrw
        rw [cA.at (by omega)]
    · intro k hkk ihk mk ck hk
      have hx := CX12 ck hxA
      refine go_iload_n (q := 1) (i := 1) rfl rfl dX12_undo_21 ?_
      refine go_bipush (v := nI 105) (by decide) dX12_undo_22 ?_
      refine gn_ge (by omega) (by omega) (tgt := 53) dX12_undo_24 (by decide) (fun h24 => by exfalso; omega) (fun h24 => ?_)
      refine go_aload_n (q := 0) (i := 0) rfl rfl dX12_undo_27 ?_
      refine go_getR lf12_140 rfl hx.o hx.r58 dX12_undo_28 ?_
      refine go_iload_n (q := 1) (i := 1) rfl rfl dX12_undo_31 ?_
      refine go_aload_n (q := 0) (i := 0) rfl rfl dX12_undo_32 ?_
      refine go_getR lf12_149 rfl hx.o hx.r64 dX12_undo_33 ?_
      refine go_bipush (v := nI 105) (by decide) dX12_undo_36 ?_
      refine go_aload_n (q := 0) (i := 0) rfl rfl dX12_undo_38 ?_
      refine go_getI lf12_286 rfl hx.o dX12_undo_39 ?_
      rw [ck.at (show ¬ _ by omega), ← hmA, gI_s, upd_eq]
      refine gn_mul dX12_undo_42 ?_
      refine go_iload_n (q := 1) (i := 1) rfl rfl dX12_undo_43 ?_
      refine gn_add dX12_undo_44 ?_
      refine go_iald (j := ((105 * ((u - 1))) + k)) hx.i64 (by omega) (by first | decide | omega) rfl dX12_undo_45 ?_
      rw [ck.at (show ¬ _ by omega)]
      refine go_iast (j := k) hx.i58 (by omega) (by first | decide | omega) rfl dX12_undo_46 ?_
      refine gn_inc (i := 1) (a := k) (q := 1) rfl dX12_undo_47 (nle rfl) rfl ?_
      refine go_goto (tgt := 21) dX12_undo_50 (by decide) ?_
      refine ihk _ (ck.tr (Ch.I rfl)) (fun z hz => ?_)
      rw [gI_s]
      by_cases e : z = k
      · rw [e, upd_eq]
      · rw [upd_ne e]; exact hk z (by omega)
  exact key 0 (Nat.zero_le _) mA Ch.rf (fun z hz => absurd hz (Nat.not_lt_zero z))
set_option maxRecDepth 100000 in
set_option maxHeartbeats 4000000 in
theorem ex_undo0 {m : Me} (hx : Wf12 m.1 (gR m)) (h1 : gI m 274 63 = nI 0) : Ev mX12_undo [.ref 274] m (fun o m' => o = some (.int (nI 0)) ∧ m' = m) := by
  refine ⟨plmX12_undo, nle rfl, ?_⟩
  refine go_aload_n (q := 0) (i := 0) rfl rfl dX12_undo_0 ?_
  refine go_getI lf12_286 rfl hx.o dX12_undo_1 ?_
  rw [h1]
  refine gz_ne (by omega) (tgt := 9) dX12_undo_4 (by decide) (fun h4 => by exfalso; omega) (fun h4 => ?_)
  refine go_iconst (v := nI 0) (by decide) dX12_undo_7 ?_
  refine go_zret rfl (by decide) ⟨Nat.zero_le _, Nat.zero_le _⟩ dX12_undo_8 ?_
  exact ⟨rfl, rfl⟩
set_option maxRecDepth 100000 in
set_option maxHeartbeats 4000000 in
theorem ev_hold {m : Me} {pl dr : Nat} (hX : CX m.1 (gR m) pl dr) {j : Nat} (hj : j < 3) : Ev mX11_hold [.ref 0, .int (nI j)] m (fun o m' => o = some (.int (nI 1)) ∧ Ch (fun y => (256 + 6 * j ≤ y ∧ y ≤ 256 + 6 * j + 5) ∨ y = 210) m m' ∧ gI m' 210 = upd (gI m 210) j (nI 1) ∧ gw m' (256 + 6 * j) = gw m 15) := by
  refine ⟨plmX11_hold, nle rfl, ?_⟩
  refine go_iload_n (q := 1) (i := 1) rfl rfl dX11_hold_0 ?_
  refine gz_lt (by omega) (tgt := 9) dX11_hold_1 (by decide) (fun h1 => by exfalso; omega) (fun h1 => ?_)
  refine go_iload_n (q := 1) (i := 1) rfl rfl dX11_hold_4 ?_
  refine go_iconst (v := nI 3) (by decide) dX11_hold_5 ?_
  refine gn_lt (by omega) (by omega) (tgt := 11) dX11_hold_6 (by decide) (fun h6 => ?_) (fun h6 => by exfalso; omega)
  refine go_aload_n (q := 0) (i := 0) rfl rfl dX11_hold_11 ?_
  refine go_getR lf11_61 rfl hX.o hX.r8 dX11_hold_12 ?_
  refine go_iload_n (q := 1) (i := 1) rfl rfl dX11_hold_15 ?_
  refine go_aald (j := j) hX.i8 (by omega) (by first | decide | omega) rfl (hX.slots j hj).1 dX11_hold_16 ?_
  refine go_aload_n (q := 0) (i := 0) rfl rfl dX11_hold_17 ?_
  refine go_getR lf11_47 rfl hX.o hX.r5 dX11_hold_18 ?_
  refine go_callV okmX1_copyFrom lmX11_205 ⟨nle rfl, nle rfl⟩ (hX.slots j hj).2.o ⟨by decide, rfl⟩ (ev_copyFrom (hX.slots j hj).2 hX.w5 (by omega)) npmX1_copyFrom rfl (nle rfl) ⟨nle rfl, nle rfl⟩ dX11_hold_21 ?_
  rintro _ m1 ⟨rfl, cA, eA⟩
  have hX := CX.to cA hX
  refine go_c0 ?_
  refine go_aload_n (q := 0) (i := 0) rfl rfl dX11_hold_24 ?_
  refine go_getR lf11_65 rfl hX.o hX.r9 dX11_hold_25 ?_
  refine go_iload_n (q := 1) (i := 1) rfl rfl dX11_hold_28 ?_
  refine go_iconst (v := nI 1) (by decide) dX11_hold_29 ?_
  refine go_zast (j := j) hX.i9 (by omega) (by first | decide | omega) rfl (by decide) dX11_hold_30 ?_
  refine go_iconst (v := nI 1) (by decide) dX11_hold_31 ?_
  refine go_zret rfl (by decide) ⟨Nat.zero_le _, Nat.zero_le _⟩ dX11_hold_32 ?_
  refine ⟨rfl, (cA.mn (fun y hy => Or.inl hy)).tr (Ch.I (Or.inr rfl)), ?_, ?_⟩
  · rw [gI_s, cA.at (by omega)]
  · rw [← eA]
    exact gw_keep (A := fun y => y = 210) (Ch.I rfl) (fun y a b => by omega)
set_option maxRecDepth 100000 in
set_option maxHeartbeats 4000000 in
theorem ev_hold0 {m : Me} {pl dr : Nat} (hX : CX m.1 (gR m) pl dr) {v : Int32} (hv : inS v (nI 0) (nI 2) = nI 0) : Ev mX11_hold [.ref 0, .int v] m (fun o m' => o = some (.int (nI 0)) ∧ m' = m) := by
  refine ⟨plmX11_hold, nle rfl, ?_⟩
  refine go_iload_n (q := 1) (i := 1) rfl rfl dX11_hold_0 ?_
  refine go_if_lt (tgt := 9) dX11_hold_1 (by decide) (fun h1 => ?_) (fun h1 => ?_)
  · skip
    refine go_iconst (v := nI 0) (by decide) dX11_hold_9 ?_
    refine go_zret rfl (by decide) ⟨Nat.zero_le _, Nat.zero_le _⟩ dX11_hold_10 ?_
    exact ⟨rfl, rfl⟩
  · skip
    refine go_iload_n (q := 1) (i := 1) rfl rfl dX11_hold_4 ?_
    refine go_iconst (v := nI 3) (by decide) dX11_hold_5 ?_
    refine go_icmp_lt (tgt := 11) dX11_hold_6 (by decide) (fun h6 => by exfalso; exact absurd (hv.symm.trans (in_yes (by rw [nI_0]; exact h1) (by rw [Int32.lt_iff_toInt_lt, nI_toInt (by decide)] at h6 ⊢; omega))) (by decide)) (fun h6 => ?_)
    refine go_iconst (v := nI 0) (by decide) dX11_hold_9 ?_
    refine go_zret rfl (by decide) ⟨Nat.zero_le _, Nat.zero_le _⟩ dX11_hold_10 ?_
    exact ⟨rfl, rfl⟩
theorem nI_ge0 {n : Nat} (h : n < 2 ^ 31) : ¬ nI n < nI 0 := by rw [nI_0]; exact nI_pos h
set_option maxRecDepth 100000 in
set_option maxHeartbeats 8000000 in
theorem ex_hold {m : Me} (hx : Wf12 m.1 (gR m)) {j : Nat} (hj : j < 3) : Ev mX12_hold [.ref 274, .int (nI j)] m (fun o m' => o = some (.int (nI 1)) ∧ Ch (fun y => y = 326 ∨ y = 327) m m' ∧ gI m' 326 = upd (gI m 326) j (nI 1) ∧ (∀ k, k < 105 → srw m' j k = gI m 315 k) ∧ ∀ i k, i < 3 → k < 105 → i ≠ j → srw m' i k = srw m i k) := by
  refine ⟨plmX12_hold, nle rfl, ?_⟩
  have hv : inS (nI j) (nI 0) (nI 2) = nI 1 := in_yes (nI_ge0 (by omega)) (by rw [nI_ltI (by omega) (by omega)]; omega)
  refine go_iload_n (q := 1) (i := 1) rfl rfl dX12_hold_0 ?_
  refine go_iconst (v := nI 0) (by decide) dX12_hold_1 ?_
  refine go_iconst (v := nI 2) (by decide) dX12_hold_2 ?_
  refine go_callS okmX12_in lmX12_361 ⟨nle rfl, nle rfl⟩ (ex_in) npmX12_in rfl (nle rfl) ⟨nle rfl, nle rfl⟩ dX12_hold_3 ?_
  rintro _ mz ⟨rfl, hz⟩
  subst mz
  rw [hv]
  refine go_c1 ?_
  refine gz_ne (by omega) (tgt := 11) dX12_hold_6 (by decide) (fun h6 => ?_) (fun h6 => by exfalso; omega)
  refine go_aload_n (q := 0) (i := 0) rfl rfl dX12_hold_11 ?_
  refine go_getR lf12_173 rfl hx.o hx.r73 dX12_hold_12 ?_
  refine go_iload_n (q := 1) (i := 1) rfl rfl dX12_hold_15 ?_
  refine go_iconst (v := nI 1) (by decide) dX12_hold_16 ?_
  refine go_zast (j := j) hx.i73 (by omega) (by first | decide | omega) rfl (by decide) dX12_hold_17 ?_
  generalize hmA : sI m 326 _ = mA
  have cA : Ch (fun y => y = 326) m mA := by rw [← hmA]; exact Ch.I rfl
  have hxA := CX12 cA hx
  refine go_iconst (v := nI 0) (by decide) dX12_hold_18 ?_
  refine go_istore_n (q := 2) (i := 2) rfl dX12_hold_19 (nle rfl) (nle rfl) ?_
  have key : ∀ k, k ≤ 105 → ∀ mk : Me, Ch (fun x => x = 327) mA mk → (∀ z, z < k → gI mk 327 (105 * j + z) = gI m 315 z) → (∀ z, (z < 105 * j ∨ 105 * j + 105 ≤ z) → gI mk 327 z = gI m 327 z) → Go mX12_hold (fun o m' => o = some (.int (nI 1)) ∧ Ch (fun y => y = 326 ∨ y = 327) m m' ∧ gI m' 326 = upd (gI m 326) j (nI 1) ∧ (∀ k, k < 105 → srw m' j k = gI m 315 k) ∧ ∀ i k, i < 3 → k < 105 → i ≠ j → srw m' i k = srw m i k) 20 [some (.ref 274), some (.int (nI j)), some (.int (nI k))] [] mk 0 0 := by
    refine loop_up 105 ?_ ?_
    · intro mk ck hk hl
      have hx := CX12 ck hxA
      refine go_iload_n (q := 2) (i := 2) rfl rfl dX12_hold_20 ?_
      refine go_bipush (v := nI 105) (by decide) dX12_hold_21 ?_
      refine gn_ge (by omega) (by omega) (tgt := 49) dX12_hold_23 (by decide) (fun h23 => ?_) (fun h23 => by exfalso; omega)
      refine go_iconst (v := nI 1) (by decide) dX12_hold_49 ?_
      refine go_zret rfl (by decide) ⟨Nat.zero_le _, Nat.zero_le _⟩ dX12_hold_50 ?_
      refine ⟨rfl, (cA.mn (fun x z => Or.inl z)).tr (ck.mn (fun x z => Or.inr z)), ?_, hk, fun i k hi hk_ hne => hl _ ?_⟩
      · rw [ck.at (by omega), ← hmA, gI_s]
      · rcases (show i < j ∨ j < i by omega) with z | z
        · left; have : 105 * (i + 1) ≤ 105 * j := Nat.mul_le_mul_left 105 z
          omega
        · right; have : 105 * (j + 1) ≤ 105 * i := Nat.mul_le_mul_left 105 z
          omega
    · intro k hkk ihk mk ck hk hl
      have hx := CX12 ck hxA
      refine go_iload_n (q := 2) (i := 2) rfl rfl dX12_hold_20 ?_
      refine go_bipush (v := nI 105) (by decide) dX12_hold_21 ?_
      refine gn_ge (by omega) (by omega) (tgt := 49) dX12_hold_23 (by decide) (fun h23 => by exfalso; omega) (fun h23 => ?_)
      refine go_aload_n (q := 0) (i := 0) rfl rfl dX12_hold_26 ?_
      refine go_getR lf12_176 rfl hx.o hx.r74 dX12_hold_27 ?_
      refine go_bipush (v := nI 105) (by decide) dX12_hold_30 ?_
      refine go_iload_n (q := 1) (i := 1) rfl rfl dX12_hold_32 ?_
      refine gn_mul dX12_hold_33 ?_
      refine go_iload_n (q := 2) (i := 2) rfl rfl dX12_hold_34 ?_
      refine gn_add dX12_hold_35 ?_
      refine go_aload_n (q := 0) (i := 0) rfl rfl dX12_hold_36 ?_
      refine go_getR lf12_140 rfl hx.o hx.r58 dX12_hold_37 ?_
      refine go_iload_n (q := 2) (i := 2) rfl rfl dX12_hold_40 ?_
      refine go_iald (j := k) hx.i58 (by omega) (by first | decide | omega) rfl dX12_hold_41 ?_
      rw [ck.at (show ¬ _ by omega), cA.at (show ¬ _ by omega)]
      refine go_iast (j := ((105 * j) + k)) hx.i74 (by omega) (by first | decide | omega) rfl dX12_hold_42 ?_
      refine gn_inc (i := 2) (a := k) (q := 1) rfl dX12_hold_43 (nle rfl) rfl ?_
      refine go_goto (tgt := 20) dX12_hold_46 (by decide) ?_
      refine ihk _ (ck.tr (Ch.I rfl)) (fun z hz => ?_) (fun z hz => ?_)
      · rw [gI_s]
        by_cases e : z = k
        · rw [e, upd_eq]
        · rw [upd_ne (by omega)]; exact hk z (by omega)
      · rw [gI_s, upd_ne (by omega)]; exact hl z hz
  exact key 0 (Nat.zero_le _) mA Ch.rf (fun z hz => absurd hz (Nat.not_lt_zero z)) (fun z _ => by rw [cA.at (show ¬ _ by omega)])
set_option maxRecDepth 100000 in
set_option maxHeartbeats 4000000 in
theorem ex_hold0 {m : Me} (hx : Wf12 m.1 (gR m)) {v : Int32} (hv : inS v (nI 0) (nI 2) = nI 0) : Ev mX12_hold [.ref 274, .int v] m (fun o m' => o = some (.int (nI 0)) ∧ m' = m) := by
  refine ⟨plmX12_hold, nle rfl, ?_⟩
  refine go_iload_n (q := 1) (i := 1) rfl rfl dX12_hold_0 ?_
  refine go_iconst (v := nI 0) (by decide) dX12_hold_1 ?_
  refine go_iconst (v := nI 2) (by decide) dX12_hold_2 ?_
  refine go_callS okmX12_in lmX12_361 ⟨nle rfl, nle rfl⟩ (ex_in) npmX12_in rfl (nle rfl) ⟨nle rfl, nle rfl⟩ dX12_hold_3 ?_
  rintro _ mz ⟨rfl, hz⟩
  subst mz
  rw [hv]
  refine go_c1 ?_
  refine gz_ne (by omega) (tgt := 11) dX12_hold_6 (by decide) (fun h6 => by exfalso; omega) (fun h6 => ?_)
  refine go_iconst (v := nI 0) (by decide) dX12_hold_9 ?_
  refine go_zret rfl (by decide) ⟨Nat.zero_le _, Nat.zero_le _⟩ dX12_hold_10 ?_
  exact ⟨rfl, rfl⟩
set_option maxRecDepth 100000 in
set_option maxHeartbeats 4000000 in
theorem ev_empty {m : Me} (hp : Wf6 m.1 (gR m) 27) : Ev mX6_empty [.ref 27] m (fun o m' => o = none ∧ m' = sI m 27 (upd (gI m 27) 2 (nI 0))) := by
  refine ⟨plmX6_empty, nle rfl, ?_⟩
  refine go_aload_n (q := 0) (i := 0) rfl rfl dX6_empty_0 ?_
  refine go_iconst (v := nI 0) (by decide) dX6_empty_1 ?_
  refine go_putI lf6_18 rfl (Or.inl rfl) hp.o dX6_empty_2 ?_
  refine go_vret rfl ⟨Nat.zero_le _, Nat.zero_le _⟩ dX6_empty_5 ?_
  exact ⟨rfl, rfl⟩
set_option maxRecDepth 100000 in
set_option maxHeartbeats 4000000 in
theorem ev_restore {m : Me} {pl dr : Nat} (hX : CX m.1 (gR m) pl dr) {j : Nat} (hj : j < 3) (hh : gI m 210 j = nI 1) : Ev mX11_restore [.ref 0, .int (nI j)] m (fun o m' => o = some (.int (nI 1)) ∧ Ch (fun y => (15 ≤ y ∧ y ≤ 20) ∨ y = 27) m m' ∧ gI m' 27 1 = gI m 27 1 ∧ gI m' 27 2 = nI 0 ∧ gw m' 15 = gw m (256 + 6 * j)) := by
  refine ⟨plmX11_restore, nle rfl, ?_⟩
  refine go_iload_n (q := 1) (i := 1) rfl rfl dX11_restore_0 ?_
  refine gz_lt (by omega) (tgt := 18) dX11_restore_1 (by decide) (fun h1 => by exfalso; omega) (fun h1 => ?_)
  refine go_iload_n (q := 1) (i := 1) rfl rfl dX11_restore_4 ?_
  refine go_iconst (v := nI 3) (by decide) dX11_restore_5 ?_
  refine gn_ge (by omega) (by omega) (tgt := 18) dX11_restore_6 (by decide) (fun h6 => by exfalso; omega) (fun h6 => ?_)
  refine go_aload_n (q := 0) (i := 0) rfl rfl dX11_restore_9 ?_
  refine go_getR lf11_65 rfl hX.o hX.r9 dX11_restore_10 ?_
  refine go_iload_n (q := 1) (i := 1) rfl rfl dX11_restore_13 ?_
  refine go_zald (j := j) hX.i9 (by omega) (by first | decide | omega) rfl dX11_restore_14 ?_
  rw [hh]
  refine gz_ne (by omega) (tgt := 20) dX11_restore_15 (by decide) (fun h15 => ?_) (fun h15 => by exfalso; omega)
  refine go_aload_n (q := 0) (i := 0) rfl rfl dX11_restore_20 ?_
  refine go_getR lf11_47 rfl hX.o hX.r5 dX11_restore_21 ?_
  refine go_aload_n (q := 0) (i := 0) rfl rfl dX11_restore_24 ?_
  refine go_getR lf11_61 rfl hX.o hX.r8 dX11_restore_25 ?_
  refine go_iload_n (q := 1) (i := 1) rfl rfl dX11_restore_28 ?_
  refine go_aald (j := j) hX.i8 (by omega) (by first | decide | omega) rfl (hX.slots j hj).1 dX11_restore_29 ?_
  refine go_callV okmX1_copyFrom lmX11_205 ⟨nle rfl, nle rfl⟩ hX.w5.o ⟨by decide, rfl⟩ (ev_copyFrom hX.w5 (hX.slots j hj).2 (by omega)) npmX1_copyFrom rfl (nle rfl) ⟨nle rfl, nle rfl⟩ dX11_restore_30 ?_
  rintro _ m1 ⟨rfl, cA, eA⟩
  have hX := CX.to cA hX
  refine go_c0 ?_
  refine go_aload_n (q := 0) (i := 0) rfl rfl dX11_restore_33 ?_
  refine go_getR lf11_57 rfl hX.o hX.r7 dX11_restore_34 ?_
  refine go_callV okmX6_empty lmX11_295 ⟨nle rfl, nle rfl⟩ hX.w7.o ⟨by decide, rfl⟩ (ev_empty hX.w7) npmX6_empty rfl (nle rfl) ⟨nle rfl, nle rfl⟩ dX11_restore_37 ?_
  rintro _ m2 ⟨rfl, e2⟩
  subst e2
  refine go_c0 ?_
  refine go_iconst (v := nI 1) (by decide) dX11_restore_40 ?_
  refine go_zret rfl (by decide) ⟨Nat.zero_le _, Nat.zero_le _⟩ dX11_restore_41 ?_
  refine ⟨rfl, (cA.mn (fun y hy => Or.inl hy)).tr (Ch.I (Or.inr rfl)), ?_, ?_, ?_⟩
  · rw [gI_s, upd_ne (by decide), cA.at (by omega)]
  · rw [gI_s, upd_eq]
  · rw [gw_15 (by decide)]; exact eA
set_option maxRecDepth 100000 in
set_option maxHeartbeats 4000000 in
theorem ev_restore0 {m : Me} {pl dr : Nat} (hX : CX m.1 (gR m) pl dr) {j : Nat} (hj : j < 3) (hh : gI m 210 j = nI 0) : Ev mX11_restore [.ref 0, .int (nI j)] m (fun o m' => o = some (.int (nI 0)) ∧ m' = m) := by
  refine ⟨plmX11_restore, nle rfl, ?_⟩
  refine go_iload_n (q := 1) (i := 1) rfl rfl dX11_restore_0 ?_
  refine gz_lt (by omega) (tgt := 18) dX11_restore_1 (by decide) (fun h1 => by exfalso; omega) (fun h1 => ?_)
  refine go_iload_n (q := 1) (i := 1) rfl rfl dX11_restore_4 ?_
  refine go_iconst (v := nI 3) (by decide) dX11_restore_5 ?_
  refine gn_ge (by omega) (by omega) (tgt := 18) dX11_restore_6 (by decide) (fun h6 => by exfalso; omega) (fun h6 => ?_)
  refine go_aload_n (q := 0) (i := 0) rfl rfl dX11_restore_9 ?_
  refine go_getR lf11_65 rfl hX.o hX.r9 dX11_restore_10 ?_
  refine go_iload_n (q := 1) (i := 1) rfl rfl dX11_restore_13 ?_
  refine go_zald (j := j) hX.i9 (by omega) (by first | decide | omega) rfl dX11_restore_14 ?_
  rw [hh]
  refine gz_ne (by omega) (tgt := 20) dX11_restore_15 (by decide) (fun h15 => by exfalso; omega) (fun h15 => ?_)
  refine go_iconst (v := nI 0) (by decide) dX11_restore_18 ?_
  refine go_zret rfl (by decide) ⟨Nat.zero_le _, Nat.zero_le _⟩ dX11_restore_19 ?_
  exact ⟨rfl, rfl⟩
set_option maxRecDepth 100000 in
set_option maxHeartbeats 4000000 in
theorem ev_restoreB {m : Me} {pl dr : Nat} (hX : CX m.1 (gR m) pl dr) {v : Int32} (hv : inS v (nI 0) (nI 2) = nI 0) : Ev mX11_restore [.ref 0, .int v] m (fun o m' => o = some (.int (nI 0)) ∧ m' = m) := by
  refine ⟨plmX11_restore, nle rfl, ?_⟩
  refine go_iload_n (q := 1) (i := 1) rfl rfl dX11_restore_0 ?_
  refine go_if_lt (tgt := 18) dX11_restore_1 (by decide) (fun h1 => ?_) (fun h1 => ?_)
  · skip
    refine go_iconst (v := nI 0) (by decide) dX11_restore_18 ?_
    refine go_zret rfl (by decide) ⟨Nat.zero_le _, Nat.zero_le _⟩ dX11_restore_19 ?_
    exact ⟨rfl, rfl⟩
  · skip
    refine go_iload_n (q := 1) (i := 1) rfl rfl dX11_restore_4 ?_
    refine go_iconst (v := nI 3) (by decide) dX11_restore_5 ?_
    refine go_icmp_ge (tgt := 18) dX11_restore_6 (by decide) (fun h6 => ?_) (fun h6 => by exfalso; exact absurd (hv.symm.trans (in_yes (by rw [nI_0]; exact h1) (by rw [Int32.le_iff_toInt_le, nI_toInt (by decide)] at h6; rw [Int32.lt_iff_toInt_lt, nI_toInt (by decide)]; omega))) (by decide))
    refine go_iconst (v := nI 0) (by decide) dX11_restore_18 ?_
    refine go_zret rfl (by decide) ⟨Nat.zero_le _, Nat.zero_le _⟩ dX11_restore_19 ?_
    exact ⟨rfl, rfl⟩
set_option maxRecDepth 100000 in
set_option maxHeartbeats 8000000 in
theorem ex_restore {m : Me} (hx : Wf12 m.1 (gR m)) {j : Nat} (hj : j < 3) (hh : gI m 326 j = nI 1) : Ev mX12_restore [.ref 274, .int (nI j)] m (fun o m' => o = some (.int (nI 1)) ∧ Ch (fun y => y = 274 ∨ y = 315) m m' ∧ (∀ k, k ≠ 63 → gI m' 274 k = gI m 274 k) ∧ gI m' 274 63 = nI 0 ∧ ∀ k, k < 105 → gI m' 315 k = srw m j k) := by
  refine ⟨plmX12_restore, nle rfl, ?_⟩
  have hxA := hx
  have hv : inS (nI j) (nI 0) (nI 2) = nI 1 := in_yes (nI_ge0 (by omega)) (by rw [nI_ltI (by omega) (by omega)]; omega)
  refine go_iload_n (q := 1) (i := 1) rfl rfl dX12_restore_0 ?_
  refine go_iconst (v := nI 0) (by decide) dX12_restore_1 ?_
  refine go_iconst (v := nI 2) (by decide) dX12_restore_2 ?_
  refine go_callS okmX12_in lmX12_361 ⟨nle rfl, nle rfl⟩ (ex_in) npmX12_in rfl (nle rfl) ⟨nle rfl, nle rfl⟩ dX12_restore_3 ?_
  rintro _ mz ⟨rfl, hz⟩
  subst mz
  rw [hv]
  refine go_c1 ?_
  refine gz_eq (by omega) (tgt := 18) dX12_restore_6 (by decide) (fun h6 => by exfalso; omega) (fun h6 => ?_)
  refine go_aload_n (q := 0) (i := 0) rfl rfl dX12_restore_9 ?_
  refine go_getR lf12_173 rfl hx.o hx.r73 dX12_restore_10 ?_
  refine go_iload_n (q := 1) (i := 1) rfl rfl dX12_restore_13 ?_
  refine go_zald (j := j) hx.i73 (by omega) (by first | decide | omega) rfl dX12_restore_14 ?_
  rw [hh]
  refine gz_ne (by omega) (tgt := 20) dX12_restore_15 (by decide) (fun h15 => ?_) (fun h15 => by exfalso; omega)
  refine go_iconst (v := nI 0) (by decide) dX12_restore_20 ?_
  refine go_istore_n (q := 2) (i := 2) rfl dX12_restore_21 (nle rfl) (nle rfl) ?_
  have key : ∀ k, k ≤ 105 → ∀ mk : Me, Ch (fun x => x = 315) m mk → (∀ z, z < k → gI mk 315 z = gI m 327 (105 * j + z)) → Go mX12_restore (fun o m' => o = some (.int (nI 1)) ∧ Ch (fun y => y = 274 ∨ y = 315) m m' ∧ (∀ k, k ≠ 63 → gI m' 274 k = gI m 274 k) ∧ gI m' 274 63 = nI 0 ∧ ∀ k, k < 105 → gI m' 315 k = srw m j k) 22 [some (.ref 274), some (.int (nI j)), some (.int (nI k))] [] mk 0 0 := by
    refine loop_up 105 ?_ ?_
    · intro mk ck hk
      have hx := CX12 ck hxA
      refine go_iload_n (q := 2) (i := 2) rfl rfl dX12_restore_22 ?_
      refine go_bipush (v := nI 105) (by decide) dX12_restore_23 ?_
      refine gn_ge (by omega) (by omega) (tgt := 51) dX12_restore_25 (by decide) (fun h25 => ?_) (fun h25 => by exfalso; omega)
      refine go_aload_n (q := 0) (i := 0) rfl rfl dX12_restore_51 ?_
      refine go_iconst (v := nI 0) (by decide) dX12_restore_52 ?_
      refine go_putI lf12_286 rfl (Or.inl rfl) hx.o dX12_restore_53 ?_
      refine go_iconst (v := nI 1) (by decide) dX12_restore_56 ?_
      refine go_zret rfl (by decide) ⟨Nat.zero_le _, Nat.zero_le _⟩ dX12_restore_57 ?_
      refine ⟨rfl, (ck.mn (fun x z => Or.inr z)).tr (Ch.I (Or.inl rfl)), fun k hk_ => ?_, ?_, fun k hk_ => ?_⟩
      · rw [gI_s, upd_ne hk_, ck.at (by omega)]
      · rw [gI_s, upd_eq]
      · rw [gI_n (by decide)]; exact hk k hk_
    · intro k hkk ihk mk ck hk
      have hx := CX12 ck hxA
      refine go_iload_n (q := 2) (i := 2) rfl rfl dX12_restore_22 ?_
      refine go_bipush (v := nI 105) (by decide) dX12_restore_23 ?_
      refine gn_ge (by omega) (by omega) (tgt := 51) dX12_restore_25 (by decide) (fun h25 => by exfalso; omega) (fun h25 => ?_)
      refine go_aload_n (q := 0) (i := 0) rfl rfl dX12_restore_28 ?_
      refine go_getR lf12_140 rfl hx.o hx.r58 dX12_restore_29 ?_
      refine go_iload_n (q := 2) (i := 2) rfl rfl dX12_restore_32 ?_
      refine go_aload_n (q := 0) (i := 0) rfl rfl dX12_restore_33 ?_
      refine go_getR lf12_176 rfl hx.o hx.r74 dX12_restore_34 ?_
      refine go_bipush (v := nI 105) (by decide) dX12_restore_37 ?_
      refine go_iload_n (q := 1) (i := 1) rfl rfl dX12_restore_39 ?_
      refine gn_mul dX12_restore_40 ?_
      refine go_iload_n (q := 2) (i := 2) rfl rfl dX12_restore_41 ?_
      refine gn_add dX12_restore_42 ?_
      refine go_iald (j := ((105 * j) + k)) hx.i74 (by omega) (by first | decide | omega) rfl dX12_restore_43 ?_
      rw [ck.at (show ¬ _ by omega)]
      refine go_iast (j := k) hx.i58 (by omega) (by first | decide | omega) rfl dX12_restore_44 ?_
      refine gn_inc (i := 2) (a := k) (q := 1) rfl dX12_restore_45 (nle rfl) rfl ?_
      refine go_goto (tgt := 22) dX12_restore_48 (by decide) ?_
      refine ihk _ (ck.tr (Ch.I rfl)) (fun z hz => ?_)
      rw [gI_s]
      by_cases e : z = k
      · rw [e, upd_eq]
      · rw [upd_ne e]; exact hk z (by omega)
  exact key 0 (Nat.zero_le _) m Ch.rf (fun z hz => absurd hz (Nat.not_lt_zero z))
set_option maxRecDepth 100000 in
set_option maxHeartbeats 8000000 in
theorem ex_restore0 {m : Me} (hx : Wf12 m.1 (gR m)) {j : Nat} (hj : j < 3) (hh : gI m 326 j = nI 0) : Ev mX12_restore [.ref 274, .int (nI j)] m (fun o m' => o = some (.int (nI 0)) ∧ m' = m) := by
  refine ⟨plmX12_restore, nle rfl, ?_⟩
  have hv : inS (nI j) (nI 0) (nI 2) = nI 1 := in_yes (nI_ge0 (by omega)) (by rw [nI_ltI (by omega) (by omega)]; omega)
  refine go_iload_n (q := 1) (i := 1) rfl rfl dX12_restore_0 ?_
  refine go_iconst (v := nI 0) (by decide) dX12_restore_1 ?_
  refine go_iconst (v := nI 2) (by decide) dX12_restore_2 ?_
  refine go_callS okmX12_in lmX12_361 ⟨nle rfl, nle rfl⟩ (ex_in) npmX12_in rfl (nle rfl) ⟨nle rfl, nle rfl⟩ dX12_restore_3 ?_
  rintro _ mz ⟨rfl, hz⟩
  subst mz
  rw [hv]
  refine go_c1 ?_
  refine gz_eq (by omega) (tgt := 18) dX12_restore_6 (by decide) (fun h6 => by exfalso; omega) (fun h6 => ?_)
  refine go_aload_n (q := 0) (i := 0) rfl rfl dX12_restore_9 ?_
  refine go_getR lf12_173 rfl hx.o hx.r73 dX12_restore_10 ?_
  refine go_iload_n (q := 1) (i := 1) rfl rfl dX12_restore_13 ?_
  refine go_zald (j := j) hx.i73 (by omega) (by first | decide | omega) rfl dX12_restore_14 ?_
  rw [hh]
  refine gz_ne (by omega) (tgt := 20) dX12_restore_15 (by decide) (fun h15 => by exfalso; omega) (fun h15 => ?_)
  refine go_iconst (v := nI 0) (by decide) dX12_restore_18 ?_
  refine go_zret rfl (by decide) ⟨Nat.zero_le _, Nat.zero_le _⟩ dX12_restore_19 ?_
  exact ⟨rfl, rfl⟩
set_option maxRecDepth 100000 in
set_option maxHeartbeats 4000000 in
theorem ex_restoreB {m : Me} (hx : Wf12 m.1 (gR m)) {v : Int32} (hv : inS v (nI 0) (nI 2) = nI 0) : Ev mX12_restore [.ref 274, .int v] m (fun o m' => o = some (.int (nI 0)) ∧ m' = m) := by
  refine ⟨plmX12_restore, nle rfl, ?_⟩
  refine go_iload_n (q := 1) (i := 1) rfl rfl dX12_restore_0 ?_
  refine go_iconst (v := nI 0) (by decide) dX12_restore_1 ?_
  refine go_iconst (v := nI 2) (by decide) dX12_restore_2 ?_
  refine go_callS okmX12_in lmX12_361 ⟨nle rfl, nle rfl⟩ (ex_in) npmX12_in rfl (nle rfl) ⟨nle rfl, nle rfl⟩ dX12_restore_3 ?_
  rintro _ mz ⟨rfl, hz⟩
  subst mz
  rw [hv]
  refine go_c1 ?_
  refine gz_eq (by omega) (tgt := 18) dX12_restore_6 (by decide) (fun h6 => ?_) (fun h6 => by exfalso; omega)
  refine go_iconst (v := nI 0) (by decide) dX12_restore_18 ?_
  refine go_zret rfl (by decide) ⟨Nat.zero_le _, Nat.zero_le _⟩ dX12_restore_19 ?_
  exact ⟨rfl, rfl⟩
