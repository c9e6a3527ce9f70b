theorem sgK_le (c : Nat) : sgK c ≤ 35 := by
  unfold sgK
  repeat' split
  all_goals decide
theorem tkK_le {B : Nat → Nat} {n a : Nat} : tkK B n a ≤ 35 := by
  have := kwI_le (lsF B a (en B n isLt a - a))
  have := sgK_le (B a)
  unfold tkK
  by_cases h1 : a < n
  · rw [pit_t h1]
    by_cases h2 : isLt (B a)
    · rw [pit_t h2]; split <;> omega
    · rw [pit_f h2]
      by_cases h3 : isDg (B a)
      · rw [pit_t h3]; split <;> omega
      · rw [pit_f h3]; omega
  · rw [pit_f h1]; omega
/-- the tokens, as they are cut: z of them -/
def Tkd (m : Me) (B : Nat → Nat) (n z : Nat) : Prop := TkS m B n z ∧ (∀ j, j + 1 < z → tK B n j < 34) ∧ 0 < z ∧ z ≤ 401 ∧ (z = 401 ∨ 34 ≤ tK B n (z - 1))
abbrev Fk (m m' : Me) : Prop := Fx (fun x => x = 3 ∨ x = 5 ∨ x = 7) (fun x => x = 6) m m'
theorem Fk.tp {m m' : Me} {B : Nat → Nat} {n : Nat} (c : Fk m m') (h : TpC m B n) : TpC m' B n := ⟨h.1, by rw [c.at (by decide)]; exact h.2.1, fun i hi => by rw [c.at (by decide)]; exact h.2.2.1 i hi, h.2.2.2⟩
set_option maxRecDepth 100000 in
set_option maxHeartbeats 4000000 in
theorem ev_fail {m : Me} {c p : Int32} (hw : Wf10 m.1 (gR m) 3) : Ev mX10_fail [.ref 3, .int c, .int p] m (fun o m' => o = none ∧ m' = if gI m 3 6 = nI 0 then sI (sI m 3 (upd (gI m 3) 6 c)) 3 (upd (gI (sI m 3 (upd (gI m 3) 6 c)) 3) 7 p) else m) := by
  refine ⟨plmX10_fail, nle rfl, ?_⟩
  refine go_aload_n (q := 0) (i := 0) rfl rfl dX10_fail_0 ?_
  refine go_getI lf10_48 rfl hw.o dX10_fail_1 ?_
  refine go_if_ne (tgt := 17) dX10_fail_4 (by decide) (fun h4 => ?_) (fun h4 => ?_)
  · skip
    refine go_vret rfl ⟨Nat.zero_le _, Nat.zero_le _⟩ dX10_fail_17 ?_
    exact ⟨rfl, (if_neg (by rw [nI_0]; exact h4)).symm⟩
  · skip
    refine go_aload_n (q := 0) (i := 0) rfl rfl dX10_fail_7 ?_
    refine go_iload_n (q := 1) (i := 1) rfl rfl dX10_fail_8 ?_
    refine go_putI lf10_48 rfl (Or.inl rfl) hw.o dX10_fail_9 ?_
    refine go_aload_n (q := 0) (i := 0) rfl rfl dX10_fail_12 ?_
    refine go_iload_n (q := 2) (i := 2) rfl rfl dX10_fail_13 ?_
    refine go_putI lf10_25 rfl (Or.inl rfl) hw.o dX10_fail_14 ?_
    refine go_vret rfl ⟨Nat.zero_le _, Nat.zero_le _⟩ dX10_fail_17 ?_
    exact ⟨rfl, (if_pos (by rw [nI_0]; exact h4)).symm⟩
set_option maxRecDepth 100000 in
set_option maxHeartbeats 8000000 in
theorem ev_scan {m : Me} {B : Nat → Nat} {n : Nat} (hw : Wf10 m.1 (gR m) 3) (ht : Wf9 m.1 (gR m) 1) (hT : TpC m B n) (hk : ∀ k, k < 23 → gJ m 4 k = kwC k) : Ev mX10_scan [.ref 3, .ref 1] m (fun o m' => o = none ∧ Fk m m' ∧ ∃ z, Tkd m' B n z ∧ gI m' 3 5 = nI n ∧ gI m' 3 6 = nI 0 ∧ gI m' 3 7 = -1) := by
  refine ⟨plmX10_scan, nle rfl, ?_⟩
  have key : ∀ i, i ≤ 401 → ∀ m1 : Me, Fk m m1 → gI m1 3 5 = nI n → gI m1 3 6 = nI 0 → gI m1 3 7 = -1 → TkS m1 B n i → (∀ j, j < i → tK B n j < 34) → Go mX10_scan (fun o m' => o = none ∧ Fk m m' ∧ ∃ z, Tkd m' B n z ∧ gI m' 3 5 = nI n ∧ gI m' 3 6 = nI 0 ∧ gI m' 3 7 = -1) 30 [some (.ref 3), some (.ref 1), some (.int (nI (tkQ B n i))), some (.int (nI 1)), some (.int (nI i))] [] m1 0 0 := by
    refine loop_up 401 ?_ ?_
    · intro m1 c5 e5 e6 e7 hS hb
      have hw := c5.to (F := fun q r => Wf10 q r 3) hw
      have ht := c5.to (F := fun q r => Wf9 q r 1) ht
      refine go_iload (i := 4) rfl dX10_scan_30 ?_
      refine go_sipush (v := nI 400) (by decide) dX10_scan_32 ?_
      refine gn_gt (by omega) (by omega) (tgt := 76) dX10_scan_35 (by decide) (fun h35 => ?_) (fun h35 => by exfalso; omega)
      refine go_vret rfl ⟨Nat.zero_le _, Nat.zero_le _⟩ dX10_scan_76 ?_
      exact ⟨rfl, c5, 401, ⟨hS, fun j hj => hb j (by omega), by omega, by omega, Or.inl rfl⟩, e5, e6, e7⟩
    · intro i hi ih m1 c5 e5 e6 e7 hS hb
      have hw := c5.to (F := fun q r => Wf10 q r 3) hw
      have ht := c5.to (F := fun q r => Wf9 q r 1) ht
      refine go_iload (i := 4) rfl dX10_scan_30 ?_
      refine go_sipush (v := nI 400) (by decide) dX10_scan_32 ?_
      refine gn_gt (by omega) (by omega) (tgt := 76) dX10_scan_35 (by decide) (fun h35 => by exfalso; omega) (fun h35 => ?_)
      refine go_iload_n (q := 3) (i := 3) rfl rfl dX10_scan_38 ?_
      refine gz_eq (by omega) (tgt := 76) dX10_scan_39 (by decide) (fun h39 => by exfalso; omega) (fun h39 => ?_)
      refine go_aload_n (q := 0) (i := 0) rfl rfl dX10_scan_42 ?_
      refine go_aload_n (q := 1) (i := 1) rfl rfl dX10_scan_43 ?_
      refine go_aload_n (q := 1) (i := 1) rfl rfl dX10_scan_44 ?_
      refine go_iload_n (q := 2) (i := 2) rfl rfl dX10_scan_45 ?_
      refine go_callS okmX10_pastBlanks lmX10_58 ⟨nle rfl, nle rfl⟩ (ev_pastBlanks ht (c5.tp hT) (tkQ_le i)) npmX10_pastBlanks rfl (nle rfl) ⟨nle rfl, nle rfl⟩ dX10_scan_46 ?_
      rintro _ mz ⟨rfl, hz⟩
      subst mz
      rw [show en B n isBk (tkQ B n i) = tP B n i from rfl]
      refine go_c1 ?_
      refine go_callV okmX10_scanToken lmX10_62 ⟨nle rfl, nle rfl⟩ hw.o ⟨by decide, rfl⟩ (ev_scanToken hw ht (c5.tp hT) tP_le (z := i) (by omega) hS.1 (fun k hk9 => by rw [c5.aj (by decide)]; exact hk k hk9)) npmX10_scanToken rfl (nle rfl) ⟨nle rfl, nle rfl⟩ dX10_scan_49 ?_
      rintro _ m3 ⟨v, nx, rfl, hnx0, hP, hV⟩
      have hw := hP.1.to (F := fun q r => Wf10 q r 3) hw
      have hS' : TkS m3 B n (i + 1) := hS.put hP hV
      have cT : Fk m m3 := c5.tr hP.1
      have e5' : gI m3 3 5 = nI n := by rw [hP.2.1, upd_ne (by decide)]; exact e5
      have e6' : gI m3 3 6 = nI 0 := by rw [hP.2.1, upd_ne (by decide)]; exact e6
      have e7' : gI m3 3 7 = -1 := by rw [hP.2.1, upd_ne (by decide)]; exact e7
      have hnx : tP B n i < n → nx = tkQ B n (i + 1) := hnx0
      have hk35 : tK B n i ≤ 35 := tkK_le
      refine go_c1 ?_
      refine go_istore_n (q := 2) (i := 2) rfl dX10_scan_52 (nle rfl) (nle rfl) ?_
      refine go_aload_n (q := 0) (i := 0) rfl rfl dX10_scan_53 ?_
      refine go_iload (i := 4) rfl dX10_scan_54 ?_
      refine go_callV okmX10_kindAt lmX10_65 ⟨nle rfl, nle rfl⟩ hw.o ⟨by decide, rfl⟩ (ev_kindAt hw hS'.1 (by omega) (by omega)) npmX10_kindAt rfl (nle rfl) ⟨nle rfl, nle rfl⟩ dX10_scan_56 ?_
      rintro _ mz ⟨rfl, hz⟩
      subst mz
      rw [if_pos (by omega), (hS'.2 i (by omega)).1]
      refine go_c1 ?_
      refine go_bipush (v := nI 34) (by decide) dX10_scan_59 ?_
      refine gn_ge (by omega) (by omega) (tgt := 68) dX10_scan_61 (by decide) (fun h61 => ?_) (fun h61 => ?_)
      · skip
        refine go_iconst (v := nI 0) (by decide) dX10_scan_68 ?_
        refine go_istore_n (q := 3) (i := 3) rfl dX10_scan_69 (nle rfl) (nle rfl) ?_
        refine gn_inc (i := 4) (a := i) (q := 1) rfl dX10_scan_70 (nle rfl) rfl ?_
        refine go_goto (tgt := 30) dX10_scan_73 (by decide) ?_
        refine go_iload (i := 4) rfl dX10_scan_30 ?_
        refine go_sipush (v := nI 400) (by decide) dX10_scan_32 ?_
        refine gn_gt (by omega) (by omega) (tgt := 76) dX10_scan_35 (by decide) (fun h35 => ?_) (fun h35 => ?_)
        · skip
          refine go_vret rfl ⟨Nat.zero_le _, Nat.zero_le _⟩ dX10_scan_76 ?_
          exact ⟨rfl, cT, i + 1, ⟨hS', fun j hj => hb j (by omega), by omega, by omega, Or.inr (by rw [Nat.add_sub_cancel]; exact h61)⟩, e5', e6', e7'⟩
        · skip
          refine go_iload_n (q := 3) (i := 3) rfl rfl dX10_scan_38 ?_
          refine gz_eq (by omega) (tgt := 76) dX10_scan_39 (by decide) (fun h39 => ?_) (fun h39 => by exfalso; omega)
          refine go_vret rfl ⟨Nat.zero_le _, Nat.zero_le _⟩ dX10_scan_76 ?_
          exact ⟨rfl, cT, i + 1, ⟨hS', fun j hj => hb j (by omega), by omega, by omega, Or.inr (by rw [Nat.add_sub_cancel]; exact h61)⟩, e5', e6', e7'⟩
      · skip
        refine go_iconst (v := nI 1) (by decide) dX10_scan_64 ?_
        refine go_goto (tgt := 69) dX10_scan_65 (by decide) ?_
        refine go_istore_n (q := 3) (i := 3) rfl dX10_scan_69 (nle rfl) (nle rfl) ?_
        refine gn_inc (i := 4) (a := i) (q := 1) rfl dX10_scan_70 (nle rfl) rfl ?_
        refine go_goto (tgt := 30) dX10_scan_73 (by decide) ?_
        have hlt : tP B n i < n := tkK_lt (show tkK B n (tP B n i) < 34 by exact h61)
        rw [hnx hlt]
        exact ih m3 cT e5' e6' e7' hS' (fun j hj => by
          by_cases e : j = i
          · rw [e]; exact h61
          · exact hb j (by omega))
  refine go_aload_n (q := 0) (i := 0) rfl rfl dX10_scan_0 ?_
  refine go_iconst (v := nI 0) (by decide) dX10_scan_1 ?_
  refine go_putI lf10_45 rfl (Or.inl rfl) hw.o dX10_scan_2 ?_
  refine go_aload_n (q := 0) (i := 0) rfl rfl dX10_scan_5 ?_
  refine go_iconst (v := nI 0) (by decide) dX10_scan_6 ?_
  refine go_putI lf10_48 rfl (Or.inl rfl) hw.o dX10_scan_7 ?_
  refine go_aload_n (q := 0) (i := 0) rfl rfl dX10_scan_10 ?_
  refine go_iconst (v := -1) (by decide) dX10_scan_11 ?_
  refine go_putI lf10_25 rfl (Or.inl rfl) hw.o dX10_scan_12 ?_
  refine go_aload_n (q := 0) (i := 0) rfl rfl dX10_scan_15 ?_
  refine go_aload_n (q := 1) (i := 1) rfl rfl dX10_scan_16 ?_
  refine go_getI lf10_51 rfl ht.o dX10_scan_17 ?_
  rw [show gI (sI (sI (sI m 3 (upd (gI m 3) 4 (nI 0))) 3 (upd (gI (sI m 3 (upd (gI m 3) 4 (nI 0))) 3) 6 (nI 0))) 3 (upd (gI (sI (sI m 3 (upd (gI m 3) 4 (nI 0))) 3 (upd (gI (sI m 3 (upd (gI m 3) 4 (nI 0))) 3) 6 (nI 0))) 3) 7 (-1))) 1 1 = nI n by rw [gI_n (by decide), gI_n (by decide), gI_n (by decide)]; exact hT.2.1]
  refine go_putI lf10_55 rfl (Or.inl rfl) hw.o dX10_scan_20 ?_
  refine go_iconst (v := nI 0) (by decide) dX10_scan_23 ?_
  refine go_istore_n (q := 2) (i := 2) rfl dX10_scan_24 (nle rfl) (nle rfl) ?_
  refine go_iconst (v := nI 1) (by decide) dX10_scan_25 ?_
  refine go_istore_n (q := 3) (i := 3) rfl dX10_scan_26 (nle rfl) (nle rfl) ?_
  refine go_iconst (v := nI 0) (by decide) dX10_scan_27 ?_
  refine go_istore (i := 4) dX10_scan_28 (nle rfl) (nle rfl) ?_
  exact key 0 (Nat.zero_le _) _ (Fx.I (Fx.I (Fx.I (Fx.I Fx.rf (Or.inl rfl)) (Or.inl rfl)) (Or.inl rfl)) (Or.inl rfl))
    (by simp only [gI_s]; exact upd_same) (by simp only [gI_s]; rw [upd_ne (by decide), upd_ne (by decide)]; exact upd_same) (by simp only [gI_s]; rw [upd_ne (by decide)]; exact upd_same)
    ⟨by simp only [gI_s]; rw [upd_ne (by decide), upd_ne (by decide), upd_ne (by decide)]; exact upd_same, fun j h => absurd h (Nat.not_lt_zero j)⟩ (fun j h => absurd h (Nat.not_lt_zero j))
