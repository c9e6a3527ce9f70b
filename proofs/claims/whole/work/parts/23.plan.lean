theorem nat_of {x : Int32} {n : Nat} {N : Int32} (hN : N = nI n) (hn : n < 2 ^ 31) (h0 : ¬ x < 0) (h1 : ¬ N ≤ x) : ∃ j, j < n ∧ x = nI j := by
  subst hN
  rcases pk_ix x hn with h | h | h
  · exact absurd h h0
  · exact absurd h h1
  · exact h
def caS (w h x y : Int32) : Int32 := if x < 0 then -1 else if w ≤ x then -1 else if y < 0 then -1 else if y < h then y * nI 8 + x else -1
def hasS (n mx x : Int32) : Int32 := if x < 0 then nI 0 else if n ≤ x then nI 0 else if mx ≤ x then nI 0 else nI 1
def rm10 (x : Int32) : Int32 := x - x / nI 10 * nI 10
def tcS (w h p : Int32) : Int32 := if 0 ≤ p then caS w h (rm10 p) (p / nI 10) else -1
set_option maxRecDepth 100000 in
set_option maxHeartbeats 4000000 in
theorem ev_cellAt {m : Me} {pl : Nat} (hp : Wf7 m.1 (gR m) pl) {x y : Int32} : Ev mX7_cellAt [.ref pl, .int x, .int y] m (fun r m' => r = some (.int (caS (gI m pl 0) (gI m pl 1) x y)) ∧ m' = m) := by
  refine ⟨plmX7_cellAt, nle rfl, ?_⟩
  refine go_iload_n (q := 1) (i := 1) rfl rfl dX7_cellAt_0 ?_
  refine go_if_lt (tgt := 24) dX7_cellAt_1 (by decide) (fun h1 => ?_) (fun h1 => ?_)
  · skip
    refine go_iconst (v := -1) (by decide) dX7_cellAt_24 ?_
    refine go_goto (tgt := 34) dX7_cellAt_25 (by decide) ?_
    refine go_iret rfl ⟨Nat.zero_le _, Nat.zero_le _⟩ dX7_cellAt_34 ?_
    refine ⟨?_, rfl⟩
    unfold caS
    repeat (first | rw [if_pos (by assumption)] | rw [if_neg (by assumption)])
  · skip
    refine go_iload_n (q := 1) (i := 1) rfl rfl dX7_cellAt_4 ?_
    refine go_aload_n (q := 0) (i := 0) rfl rfl dX7_cellAt_5 ?_
    refine go_getI lf7_46 rfl hp.o dX7_cellAt_6 ?_
    refine go_icmp_ge (tgt := 24) dX7_cellAt_9 (by decide) (fun h9 => ?_) (fun h9 => ?_)
    · skip
      refine go_iconst (v := -1) (by decide) dX7_cellAt_24 ?_
      refine go_goto (tgt := 34) dX7_cellAt_25 (by decide) ?_
      refine go_iret rfl ⟨Nat.zero_le _, Nat.zero_le _⟩ dX7_cellAt_34 ?_
      refine ⟨?_, rfl⟩
      unfold caS
      repeat (first | rw [if_pos (by assumption)] | rw [if_neg (by assumption)])
    · skip
      refine go_iload_n (q := 2) (i := 2) rfl rfl dX7_cellAt_12 ?_
      refine go_if_lt (tgt := 24) dX7_cellAt_13 (by decide) (fun h13 => ?_) (fun h13 => ?_)
      · skip
        refine go_iconst (v := -1) (by decide) dX7_cellAt_24 ?_
        refine go_goto (tgt := 34) dX7_cellAt_25 (by decide) ?_
        refine go_iret rfl ⟨Nat.zero_le _, Nat.zero_le _⟩ dX7_cellAt_34 ?_
        refine ⟨?_, rfl⟩
        unfold caS
        repeat (first | rw [if_pos (by assumption)] | rw [if_neg (by assumption)])
      · skip
        refine go_iload_n (q := 2) (i := 2) rfl rfl dX7_cellAt_16 ?_
        refine go_aload_n (q := 0) (i := 0) rfl rfl dX7_cellAt_17 ?_
        refine go_getI lf7_50 rfl hp.o dX7_cellAt_18 ?_
        refine go_icmp_lt (tgt := 28) dX7_cellAt_21 (by decide) (fun h21 => ?_) (fun h21 => ?_)
        · skip
          refine go_iload_n (q := 2) (i := 2) rfl rfl dX7_cellAt_28 ?_
          refine go_bipush (v := nI 8) (by decide) dX7_cellAt_29 ?_
          refine go_imul dX7_cellAt_31 ?_
          refine go_iload_n (q := 1) (i := 1) rfl rfl dX7_cellAt_32 ?_
          refine go_iadd dX7_cellAt_33 ?_
          refine go_iret rfl ⟨Nat.zero_le _, Nat.zero_le _⟩ dX7_cellAt_34 ?_
          refine ⟨?_, rfl⟩
          unfold caS
          repeat (first | rw [if_pos (by assumption)] | rw [if_neg (by assumption)])
        · skip
          refine go_iconst (v := -1) (by decide) dX7_cellAt_24 ?_
          refine go_goto (tgt := 34) dX7_cellAt_25 (by decide) ?_
          refine go_iret rfl ⟨Nat.zero_le _, Nat.zero_le _⟩ dX7_cellAt_34 ?_
          refine ⟨?_, rfl⟩
          unfold caS
          repeat (first | rw [if_pos (by assumption)] | rw [if_neg (by assumption)])
set_option maxRecDepth 100000 in
set_option maxHeartbeats 4000000 in
theorem ev_hasHolding {m : Me} {pl : Nat} (hp : Wf7 m.1 (gR m) pl) {x : Int32} : Ev mX7_hasHolding [.ref pl, .int x] m (fun r m' => r = some (.int (hasS (gI m pl 2) (nI 4) x)) ∧ m' = m) := by
  refine ⟨plmX7_hasHolding, nle rfl, ?_⟩
  refine go_iload_n (q := 1) (i := 1) rfl rfl dX7_hasHolding_0 ?_
  refine go_if_lt (tgt := 21) dX7_hasHolding_1 (by decide) (fun h1 => ?_) (fun h1 => ?_)
  · skip
    refine go_iconst (v := nI 0) (by decide) dX7_hasHolding_21 ?_
    refine go_zret rfl (by decide) ⟨Nat.zero_le _, Nat.zero_le _⟩ dX7_hasHolding_22 ?_
    refine ⟨?_, rfl⟩
    unfold hasS
    repeat (first | rw [if_pos (by assumption)] | rw [if_neg (by assumption)])
  · skip
    refine go_iload_n (q := 1) (i := 1) rfl rfl dX7_hasHolding_4 ?_
    refine go_aload_n (q := 0) (i := 0) rfl rfl dX7_hasHolding_5 ?_
    refine go_getI lf7_53 rfl hp.o dX7_hasHolding_6 ?_
    refine go_icmp_ge (tgt := 21) dX7_hasHolding_9 (by decide) (fun h9 => ?_) (fun h9 => ?_)
    · skip
      refine go_iconst (v := nI 0) (by decide) dX7_hasHolding_21 ?_
      refine go_zret rfl (by decide) ⟨Nat.zero_le _, Nat.zero_le _⟩ dX7_hasHolding_22 ?_
      refine ⟨?_, rfl⟩
      unfold hasS
      repeat (first | rw [if_pos (by assumption)] | rw [if_neg (by assumption)])
    · skip
      refine go_iload_n (q := 1) (i := 1) rfl rfl dX7_hasHolding_12 ?_
      refine go_iconst (v := nI 4) (by decide) dX7_hasHolding_13 ?_
      refine go_icmp_ge (tgt := 21) dX7_hasHolding_14 (by decide) (fun h14 => ?_) (fun h14 => ?_)
      · skip
        refine go_iconst (v := nI 0) (by decide) dX7_hasHolding_21 ?_
        refine go_zret rfl (by decide) ⟨Nat.zero_le _, Nat.zero_le _⟩ dX7_hasHolding_22 ?_
        refine ⟨?_, rfl⟩
        unfold hasS
        repeat (first | rw [if_pos (by assumption)] | rw [if_neg (by assumption)])
      · skip
        refine go_iconst (v := nI 1) (by decide) dX7_hasHolding_17 ?_
        refine go_goto (tgt := 22) dX7_hasHolding_18 (by decide) ?_
        refine go_zret rfl (by decide) ⟨Nat.zero_le _, Nat.zero_le _⟩ dX7_hasHolding_22 ?_
        refine ⟨?_, rfl⟩
        unfold hasS
        repeat (first | rw [if_pos (by assumption)] | rw [if_neg (by assumption)])
set_option maxRecDepth 100000 in
set_option maxHeartbeats 4000000 in
theorem ev_hasUse {m : Me} {pl : Nat} (hp : Wf7 m.1 (gR m) pl) {x : Int32} : Ev mX7_hasUse [.ref pl, .int x] m (fun r m' => r = some (.int (hasS (gI m pl 3) (nI 6) x)) ∧ m' = m) := by
  refine ⟨plmX7_hasUse, nle rfl, ?_⟩
  refine go_iload_n (q := 1) (i := 1) rfl rfl dX7_hasUse_0 ?_
  refine go_if_lt (tgt := 22) dX7_hasUse_1 (by decide) (fun h1 => ?_) (fun h1 => ?_)
  · skip
    refine go_iconst (v := nI 0) (by decide) dX7_hasUse_22 ?_
    refine go_zret rfl (by decide) ⟨Nat.zero_le _, Nat.zero_le _⟩ dX7_hasUse_23 ?_
    refine ⟨?_, rfl⟩
    unfold hasS
    repeat (first | rw [if_pos (by assumption)] | rw [if_neg (by assumption)])
  · skip
    refine go_iload_n (q := 1) (i := 1) rfl rfl dX7_hasUse_4 ?_
    refine go_aload_n (q := 0) (i := 0) rfl rfl dX7_hasUse_5 ?_
    refine go_getI lf7_56 rfl hp.o dX7_hasUse_6 ?_
    refine go_icmp_ge (tgt := 22) dX7_hasUse_9 (by decide) (fun h9 => ?_) (fun h9 => ?_)
    · skip
      refine go_iconst (v := nI 0) (by decide) dX7_hasUse_22 ?_
      refine go_zret rfl (by decide) ⟨Nat.zero_le _, Nat.zero_le _⟩ dX7_hasUse_23 ?_
      refine ⟨?_, rfl⟩
      unfold hasS
      repeat (first | rw [if_pos (by assumption)] | rw [if_neg (by assumption)])
    · skip
      refine go_iload_n (q := 1) (i := 1) rfl rfl dX7_hasUse_12 ?_
      refine go_bipush (v := nI 6) (by decide) dX7_hasUse_13 ?_
      refine go_icmp_ge (tgt := 22) dX7_hasUse_15 (by decide) (fun h15 => ?_) (fun h15 => ?_)
      · skip
        refine go_iconst (v := nI 0) (by decide) dX7_hasUse_22 ?_
        refine go_zret rfl (by decide) ⟨Nat.zero_le _, Nat.zero_le _⟩ dX7_hasUse_23 ?_
        refine ⟨?_, rfl⟩
        unfold hasS
        repeat (first | rw [if_pos (by assumption)] | rw [if_neg (by assumption)])
      · skip
        refine go_iconst (v := nI 1) (by decide) dX7_hasUse_18 ?_
        refine go_goto (tgt := 23) dX7_hasUse_19 (by decide) ?_
        refine go_zret rfl (by decide) ⟨Nat.zero_le _, Nat.zero_le _⟩ dX7_hasUse_23 ?_
        refine ⟨?_, rfl⟩
        unfold hasS
        repeat (first | rw [if_pos (by assumption)] | rw [if_neg (by assumption)])
set_option maxRecDepth 100000 in
set_option maxHeartbeats 4000000 in
theorem ev_toldCell {m : Me} {pl : Nat} (hp : Wf7 m.1 (gR m) pl) {x : Int32} : Ev mX7_toldCell [.ref pl, .int x] m (fun r m' => r = some (.int (tcS (gI m pl 0) (gI m pl 1) x)) ∧ m' = m) := by
  refine ⟨plmX7_toldCell, nle rfl, ?_⟩
  refine go_iload_n (q := 1) (i := 1) rfl rfl dX7_toldCell_0 ?_
  refine go_if_ge (tgt := 8) dX7_toldCell_1 (by decide) (fun h1 => ?_) (fun h1 => ?_)
  · skip
    refine go_aload_n (q := 0) (i := 0) rfl rfl dX7_toldCell_8 ?_
    refine go_iload_n (q := 1) (i := 1) rfl rfl dX7_toldCell_9 ?_
    refine go_bipush (v := nI 10) (by decide) dX7_toldCell_10 ?_
    refine go_irem (by decide) dX7_toldCell_12 ?_
    refine go_iload_n (q := 1) (i := 1) rfl rfl dX7_toldCell_13 ?_
    refine go_bipush (v := nI 10) (by decide) dX7_toldCell_14 ?_
    refine go_idiv (by decide) dX7_toldCell_16 ?_
    refine go_callV okmX7_cellAt lmX7_76 ⟨nle rfl, nle rfl⟩ hp.o ⟨by decide, rfl⟩ (ev_cellAt hp) npmX7_cellAt rfl (nle rfl) ⟨nle rfl, nle rfl⟩ dX7_toldCell_17 ?_
    rintro _ _ ⟨rfl, rfl⟩
    refine go_c1 ?_
    refine go_iret rfl ⟨Nat.zero_le _, Nat.zero_le _⟩ dX7_toldCell_20 ?_
    refine ⟨?_, rfl⟩
    unfold tcS rm10
    repeat (first | rw [if_pos (by assumption)] | rw [if_neg (by assumption)])
  · skip
    refine go_iconst (v := -1) (by decide) dX7_toldCell_4 ?_
    refine go_goto (tgt := 20) dX7_toldCell_5 (by decide) ?_
    refine go_iret rfl ⟨Nat.zero_le _, Nat.zero_le _⟩ dX7_toldCell_20 ?_
    refine ⟨?_, rfl⟩
    unfold tcS rm10
    repeat (first | rw [if_pos (by assumption)] | rw [if_neg (by assumption)])
/-- it is the hour of a use (from, till) -/
def ihS (fr ti hour : Int32) : Int32 := if hour - hour / nI 24 * nI 24 < fr then nI 0 else if ti < hour - hour / nI 24 * nI 24 then nI 0 else nI 1
set_option maxRecDepth 100000 in
set_option maxHeartbeats 4000000 in
theorem ev_isHourOf {m : Me} {pl : Nat} (hp : Wf7 m.1 (gR m) pl) {u : Nat} {h : Int32} (hu : u < 6) (hu2 : hasS (gI m pl 3) (nI 6) (nI u) = nI 1) : Ev mX7_isHourOf [.ref pl, .int (nI u), .int h] m (fun r m' => r = some (.int (ihS (gI m (pl + 6) u) (gI m (pl + 7) u) h)) ∧ m' = m) := by
  refine ⟨plmX7_isHourOf, nle rfl, ?_⟩
  refine go_iload_n (q := 2) (i := 2) rfl rfl dX7_isHourOf_0 ?_
  refine go_bipush (v := nI 24) (by decide) dX7_isHourOf_1 ?_
  refine go_irem (by decide) dX7_isHourOf_3 ?_
  refine go_istore_n (q := 3) (i := 3) rfl dX7_isHourOf_4 (nle rfl) (nle rfl) ?_
  refine go_aload_n (q := 0) (i := 0) rfl rfl dX7_isHourOf_5 ?_
  refine go_iload_n (q := 1) (i := 1) rfl rfl dX7_isHourOf_6 ?_
  refine go_callV okmX7_hasUse lmX7_80 ⟨nle rfl, nle rfl⟩ hp.o ⟨by decide, rfl⟩ (ev_hasUse hp) npmX7_hasUse rfl (nle rfl) ⟨nle rfl, nle rfl⟩ dX7_isHourOf_7 ?_
  rintro _ _ ⟨rfl, rfl⟩
  refine go_c1 ?_
  rw [hu2]
  refine gz_eq (by omega) (tgt := 37) dX7_isHourOf_10 (by decide) (fun h10 => by exfalso; omega) (fun h10 => ?_)
  refine go_aload_n (q := 0) (i := 0) rfl rfl dX7_isHourOf_13 ?_
  refine go_getR lf7_27 rfl hp.o hp.r13 dX7_isHourOf_14 ?_
  refine go_iload_n (q := 1) (i := 1) rfl rfl dX7_isHourOf_17 ?_
  refine go_iald (j := u) hp.i13 (by omega) (by first | decide | omega) rfl dX7_isHourOf_18 ?_
  refine go_iload_n (q := 3) (i := 3) rfl rfl dX7_isHourOf_19 ?_
  refine go_icmp_gt (tgt := 37) dX7_isHourOf_20 (by decide) (fun h20 => ?_) (fun h20 => ?_)
  · skip
    refine go_iconst (v := nI 0) (by decide) dX7_isHourOf_37 ?_
    refine go_zret rfl (by decide) ⟨Nat.zero_le _, Nat.zero_le _⟩ dX7_isHourOf_38 ?_
    refine ⟨?_, rfl⟩
    unfold ihS
    repeat (first | rw [if_pos (by assumption)] | rw [if_neg (by assumption)])
  · skip
    refine go_iload_n (q := 3) (i := 3) rfl rfl dX7_isHourOf_23 ?_
    refine go_aload_n (q := 0) (i := 0) rfl rfl dX7_isHourOf_24 ?_
    refine go_getR lf7_30 rfl hp.o hp.r14 dX7_isHourOf_25 ?_
    refine go_iload_n (q := 1) (i := 1) rfl rfl dX7_isHourOf_28 ?_
    refine go_iald (j := u) hp.i14 (by omega) (by first | decide | omega) rfl dX7_isHourOf_29 ?_
    refine go_icmp_gt (tgt := 37) dX7_isHourOf_30 (by decide) (fun h30 => ?_) (fun h30 => ?_)
    · skip
      refine go_iconst (v := nI 0) (by decide) dX7_isHourOf_37 ?_
      refine go_zret rfl (by decide) ⟨Nat.zero_le _, Nat.zero_le _⟩ dX7_isHourOf_38 ?_
      refine ⟨?_, rfl⟩
      unfold ihS
      repeat (first | rw [if_pos (by assumption)] | rw [if_neg (by assumption)])
    · skip
      refine go_iconst (v := nI 1) (by decide) dX7_isHourOf_33 ?_
      refine go_goto (tgt := 38) dX7_isHourOf_34 (by decide) ?_
      refine go_zret rfl (by decide) ⟨Nat.zero_le _, Nat.zero_le _⟩ dX7_isHourOf_38 ?_
      refine ⟨?_, rfl⟩
      unfold ihS
      repeat (first | rw [if_pos (by assumption)] | rw [if_neg (by assumption)])
def ldS (w : Nat → Int32) (c : Nat) : Int32 := if 40 ≤ c then nI 0 else if w c = -1 then nI 0 else nI 1
set_option maxRecDepth 100000 in
set_option maxHeartbeats 4000000 in
theorem ev_isLand {m : Me} {pl : Nat} (hp : Wf7 m.1 (gR m) pl) {c : Nat} (hc : c ≤ 40) : Ev mX7_isLand [.ref pl, .int (nI c)] m (fun r m' => r = some (.int (ldS (gI m (pl + 1)) c)) ∧ m' = m) := by
  refine ⟨plmX7_isLand, nle rfl, ?_⟩
  refine go_iload_n (q := 1) (i := 1) rfl rfl dX7_isLand_0 ?_
  refine gz_lt (by omega) (tgt := 24) dX7_isLand_1 (by decide) (fun h1 => by exfalso; omega) (fun h1 => ?_)
  refine go_iload_n (q := 1) (i := 1) rfl rfl dX7_isLand_4 ?_
  refine go_bipush (v := nI 40) (by decide) dX7_isLand_5 ?_
  refine gn_ge (by omega) (by omega) (tgt := 24) dX7_isLand_7 (by decide) (fun h7 => ?_) (fun h7 => ?_)
  · skip
    refine go_iconst (v := nI 0) (by decide) dX7_isLand_24 ?_
    refine go_zret rfl (by decide) ⟨Nat.zero_le _, Nat.zero_le _⟩ dX7_isLand_25 ?_
    refine ⟨?_, rfl⟩
    unfold ldS
    repeat (first | rw [if_pos (by first | assumption | omega)] | rw [if_neg (by first | assumption | omega)])
  · skip
    refine go_aload_n (q := 0) (i := 0) rfl rfl dX7_isLand_10 ?_
    refine go_getR lf7_9 rfl hp.o hp.r8 dX7_isLand_11 ?_
    refine go_iload_n (q := 1) (i := 1) rfl rfl dX7_isLand_14 ?_
    refine go_iald (j := c) hp.i8 (by omega) (by first | decide | omega) rfl dX7_isLand_15 ?_
    refine go_iconst (v := -1) (by decide) dX7_isLand_16 ?_
    refine go_icmp_eq (tgt := 24) dX7_isLand_17 (by decide) (fun h17 => ?_) (fun h17 => ?_)
    · skip
      refine go_iconst (v := nI 0) (by decide) dX7_isLand_24 ?_
      refine go_zret rfl (by decide) ⟨Nat.zero_le _, Nat.zero_le _⟩ dX7_isLand_25 ?_
      refine ⟨?_, rfl⟩
      unfold ldS
      repeat (first | rw [if_pos (by first | assumption | omega)] | rw [if_neg (by first | assumption | omega)])
    · skip
      refine go_iconst (v := nI 1) (by decide) dX7_isLand_20 ?_
      refine go_goto (tgt := 25) dX7_isLand_21 (by decide) ?_
      refine go_zret rfl (by decide) ⟨Nat.zero_le _, Nat.zero_le _⟩ dX7_isLand_25 ?_
      refine ⟨?_, rfl⟩
      unfold ldS
      repeat (first | rw [if_pos (by first | assumption | omega)] | rw [if_neg (by first | assumption | omega)])
def hacB (w : Nat → Int32) (n : Int32) : Nat → Bool
  | 0 => true
  | i + 1 => hacB w n i && (decide (w i < n) || decide (w i = nI 9))
theorem hacB_f {w : Nat → Int32} {h : Int32} {i : Nat} (hi : hacB w h i = false) : ∀ n, i ≤ n → hacB w h n = false := by
  intro n
  induction n with
  | zero => intro q; have : i = 0 := by omega
            subst this; exact hi
  | succ n ih =>
    intro q
    by_cases e : i = n + 1
    · subst e; exact hi
    · rw [hacB, ih (by omega)]; rfl
set_option maxRecDepth 100000 in
set_option maxHeartbeats 4000000 in
theorem ev_hac {m : Me} {pl : Nat} (hp : Wf7 m.1 (gR m) pl) : Ev mX7_hasHoldingsOfAllCells [.ref pl] m (fun r m' => r = some (.int (if hacB (gI m (pl + 1)) (gI m pl 2) 40 = true then nI 1 else nI 0)) ∧ m' = m) := by
  refine ⟨plmX7_hasHoldingsOfAllCells, nle rfl, ?_⟩
  have key : ∀ i, i ≤ 40 → hacB (gI m (pl + 1)) (gI m pl 2) i = true → Go mX7_hasHoldingsOfAllCells (fun r m' => r = some (.int (if hacB (gI m (pl + 1)) (gI m pl 2) 40 = true then nI 1 else nI 0)) ∧ m' = m) 2 [some (.ref pl), some (.int (nI i))] [] (m) 0 0 := by
    refine loop_up 40 ?_ ?_
    · skip
      intro hall
      refine go_iload_n (q := 1) (i := 1) rfl rfl dX7_hasHoldingsOfAllCells_2 ?_
      refine go_bipush (v := nI 40) (by decide) dX7_hasHoldingsOfAllCells_3 ?_
      refine gn_ge (by omega) (by omega) (tgt := 40) dX7_hasHoldingsOfAllCells_5 (by decide) (fun h5 => ?_) (fun h5 => by exfalso; omega)
      refine go_iconst (v := nI 1) (by decide) dX7_hasHoldingsOfAllCells_40 ?_
      refine go_zret rfl (by decide) ⟨Nat.zero_le _, Nat.zero_le _⟩ dX7_hasHoldingsOfAllCells_41 ?_
      refine ⟨?_, rfl⟩
      rw [if_pos hall]
    · intro i hi ih hall
      refine go_iload_n (q := 1) (i := 1) rfl rfl dX7_hasHoldingsOfAllCells_2 ?_
      refine go_bipush (v := nI 40) (by decide) dX7_hasHoldingsOfAllCells_3 ?_
      refine gn_ge (by omega) (by omega) (tgt := 40) dX7_hasHoldingsOfAllCells_5 (by decide) (fun h5 => by exfalso; omega) (fun h5 => ?_)
      refine go_aload_n (q := 0) (i := 0) rfl rfl dX7_hasHoldingsOfAllCells_8 ?_
      refine go_getR lf7_9 rfl hp.o hp.r8 dX7_hasHoldingsOfAllCells_9 ?_
      refine go_iload_n (q := 1) (i := 1) rfl rfl dX7_hasHoldingsOfAllCells_12 ?_
      refine go_iald (j := i) hp.i8 (by omega) (by first | decide | omega) rfl dX7_hasHoldingsOfAllCells_13 ?_
      refine go_aload_n (q := 0) (i := 0) rfl rfl dX7_hasHoldingsOfAllCells_14 ?_
      refine go_getI lf7_53 rfl hp.o dX7_hasHoldingsOfAllCells_15 ?_
      refine go_icmp_lt (tgt := 34) dX7_hasHoldingsOfAllCells_18 (by decide) (fun h18 => ?_) (fun h18 => ?_)
      · skip
        refine gn_inc (i := 1) (a := i) (q := 1) rfl dX7_hasHoldingsOfAllCells_34 (nle rfl) rfl ?_
        refine go_goto (tgt := 2) dX7_hasHoldingsOfAllCells_37 (by decide) ?_
        exact ih (by simp only [hacB, hall, h18, Bool.true_and, decide_true, Bool.true_or, Bool.or_true])
      · skip
        refine go_aload_n (q := 0) (i := 0) rfl rfl dX7_hasHoldingsOfAllCells_21 ?_
        refine go_getR lf7_9 rfl hp.o hp.r8 dX7_hasHoldingsOfAllCells_22 ?_
        refine go_iload_n (q := 1) (i := 1) rfl rfl dX7_hasHoldingsOfAllCells_25 ?_
        refine go_iald (j := i) hp.i8 (by omega) (by first | decide | omega) rfl dX7_hasHoldingsOfAllCells_26 ?_
        refine go_bipush (v := nI 9) (by decide) dX7_hasHoldingsOfAllCells_27 ?_
        refine go_icmp_eq (tgt := 34) dX7_hasHoldingsOfAllCells_29 (by decide) (fun h29 => ?_) (fun h29 => ?_)
        · skip
          refine gn_inc (i := 1) (a := i) (q := 1) rfl dX7_hasHoldingsOfAllCells_34 (nle rfl) rfl ?_
          refine go_goto (tgt := 2) dX7_hasHoldingsOfAllCells_37 (by decide) ?_
          exact ih (by simp only [hacB, hall, h29, Bool.true_and, decide_true, Bool.true_or, Bool.or_true])
        · skip
          refine go_iconst (v := nI 0) (by decide) dX7_hasHoldingsOfAllCells_32 ?_
          refine go_zret rfl (by decide) ⟨Nat.zero_le _, Nat.zero_le _⟩ dX7_hasHoldingsOfAllCells_33 ?_
          refine ⟨?_, rfl⟩
          rw [hacB_f (i := i + 1) (by simp only [hacB, hall, h18, h29, Bool.true_and, decide_false, Bool.or_self]) 40 (by omega)]
          rfl
  have k0 := key 0 (Nat.zero_le _) rfl
  refine go_iconst (v := nI 0) (by decide) dX7_hasHoldingsOfAllCells_0 ?_
  refine go_istore_n (q := 1) (i := 1) rfl dX7_hasHoldingsOfAllCells_1 (nle rfl) (nle rfl) ?_
  exact k0
set_option maxRecDepth 100000 in
set_option maxHeartbeats 4000000 in
theorem ev_storeOf {m : Me} {g : Nat} (hg : Wf1 m.1 (gR m) g) {j : Nat} (hj : j < 4) : Ev mX1_storeOf [.ref g, .int (nI j)] m (fun r m' => r = some (.int (gI m (g + 3) j)) ∧ m' = m) := by
  refine ⟨plmX1_storeOf, nle rfl, ?_⟩
  refine go_iload_n (q := 1) (i := 1) rfl rfl dX1_storeOf_0 ?_
  refine gz_lt (by omega) (tgt := 18) dX1_storeOf_1 (by decide) (fun h1 => by exfalso; omega) (fun h1 => ?_)
  refine go_iload_n (q := 1) (i := 1) rfl rfl dX1_storeOf_4 ?_
  refine go_iconst (v := nI 4) (by decide) dX1_storeOf_5 ?_
  refine gn_ge (by omega) (by omega) (tgt := 18) dX1_storeOf_6 (by decide) (fun h6 => by exfalso; omega) (fun h6 => ?_)
  refine go_aload_n (q := 0) (i := 0) rfl rfl dX1_storeOf_9 ?_
  refine go_getR lf1_18 rfl hg.o hg.r3 dX1_storeOf_10 ?_
  refine go_iload_n (q := 1) (i := 1) rfl rfl dX1_storeOf_13 ?_
  refine go_iald (j := j) hg.i3 (by omega) (by first | decide | omega) rfl dX1_storeOf_14 ?_
  refine go_goto (tgt := 19) dX1_storeOf_15 (by decide) ?_
  refine go_iret rfl ⟨Nat.zero_le _, Nat.zero_le _⟩ dX1_storeOf_19 ?_
  exact ⟨rfl, rfl⟩
set_option maxRecDepth 100000 in
set_option maxHeartbeats 4000000 in
theorem ev_loan {m : Me} {g : Nat} (hg : Wf1 m.1 (gR m) g) {j k : Nat} (hj : j < 4) (hk : k < 4) : Ev mX1_loan [.ref g, .int (nI j), .int (nI k)] m (fun r m' => r = some (.int (gI m (g + 5) (j * 4 + k))) ∧ m' = m) := by
  refine ⟨plmX1_loan, nle rfl, ?_⟩
  refine go_iload_n (q := 1) (i := 1) rfl rfl dX1_loan_0 ?_
  refine go_iconst (v := nI 4) (by decide) dX1_loan_1 ?_
  refine gn_mul dX1_loan_2 ?_
  refine go_iload_n (q := 2) (i := 2) rfl rfl dX1_loan_3 ?_
  refine gn_add dX1_loan_4 ?_
  refine go_istore_n (q := 3) (i := 3) rfl dX1_loan_5 (nle rfl) (nle rfl) ?_
  refine go_iload_n (q := 3) (i := 3) rfl rfl dX1_loan_6 ?_
  refine gz_lt (by omega) (tgt := 25) dX1_loan_7 (by decide) (fun h7 => by exfalso; omega) (fun h7 => ?_)
  refine go_iload_n (q := 3) (i := 3) rfl rfl dX1_loan_10 ?_
  refine go_bipush (v := nI 16) (by decide) dX1_loan_11 ?_
  refine gn_ge (by omega) (by omega) (tgt := 25) dX1_loan_13 (by decide) (fun h13 => by exfalso; omega) (fun h13 => ?_)
  refine go_aload_n (q := 0) (i := 0) rfl rfl dX1_loan_16 ?_
  refine go_getR lf1_24 rfl hg.o hg.r5 dX1_loan_17 ?_
  refine go_iload_n (q := 3) (i := 3) rfl rfl dX1_loan_20 ?_
  refine go_iald (j := ((j * 4) + k)) hg.i5 (by omega) (by first | decide | omega) rfl dX1_loan_21 ?_
  refine go_goto (tgt := 26) dX1_loan_22 (by decide) ?_
  refine go_iret rfl ⟨Nat.zero_le _, Nat.zero_le _⟩ dX1_loan_26 ?_
  exact ⟨rfl, rfl⟩
set_option maxRecDepth 100000 in
set_option maxHeartbeats 4000000 in
theorem ev_addLoan {m : Me} {g : Nat} (hg : Wf1 m.1 (gR m) g) {j k : Nat} {n : Int32} (hj : j < 4) (hk : k < 4) : Ev mX1_addLoan [.ref g, .int (nI j), .int (nI k), .int n] m (fun r m' => r = none ∧ m' = sI m (g + 5) (upd (gI m (g + 5)) (j * 4 + k) (gI m (g + 5) (j * 4 + k) + n))) := by
  refine ⟨plmX1_addLoan, nle rfl, ?_⟩
  refine go_iload_n (q := 1) (i := 1) rfl rfl dX1_addLoan_0 ?_
  refine go_iconst (v := nI 4) (by decide) dX1_addLoan_1 ?_
  refine gn_mul dX1_addLoan_2 ?_
  refine go_iload_n (q := 2) (i := 2) rfl rfl dX1_addLoan_3 ?_
  refine gn_add dX1_addLoan_4 ?_
  refine go_istore (i := 4) dX1_addLoan_5 (nle rfl) (nle rfl) ?_
  refine go_iload (i := 4) rfl dX1_addLoan_7 ?_
  refine gz_lt (by omega) (tgt := 30) dX1_addLoan_9 (by decide) (fun h9 => by exfalso; omega) (fun h9 => ?_)
  refine go_iload (i := 4) rfl dX1_addLoan_12 ?_
  refine go_bipush (v := nI 16) (by decide) dX1_addLoan_14 ?_
  refine gn_ge (by omega) (by omega) (tgt := 30) dX1_addLoan_16 (by decide) (fun h16 => by exfalso; omega) (fun h16 => ?_)
  refine go_aload_n (q := 0) (i := 0) rfl rfl dX1_addLoan_19 ?_
  refine go_getR lf1_24 rfl hg.o hg.r5 dX1_addLoan_20 ?_
  refine go_iload (i := 4) rfl dX1_addLoan_23 ?_
  refine go_dup2 rfl rfl dX1_addLoan_25 ?_
  refine go_iald (j := ((j * 4) + k)) hg.i5 (by omega) (by first | decide | omega) rfl dX1_addLoan_26 ?_
  refine go_iload_n (q := 3) (i := 3) rfl rfl dX1_addLoan_27 ?_
  refine go_iadd dX1_addLoan_28 ?_
  refine go_iast (j := ((j * 4) + k)) hg.i5 (by omega) (by first | decide | omega) rfl dX1_addLoan_29 ?_
  refine go_vret rfl ⟨Nat.zero_le _, Nat.zero_le _⟩ dX1_addLoan_30 ?_
  exact ⟨rfl, rfl⟩
/-- what a holding gets back less what it owes -/
def ntS (l : Nat → Int32) (h : Nat) : Nat → Int32
  | 0 => nI 0
  | i + 1 => ntS l h i + (l (h * 4 + i) - l (i * 4 + h))
set_option maxRecDepth 100000 in
set_option maxHeartbeats 4000000 in
theorem ev_netted {m : Me} {g : Nat} (hg : Wf1 m.1 (gR m) g) {h : Nat} (hh : h < 4) : Ev mX1_netted [.ref g, .int (nI h)] m (fun r m' => r = some (.int (ntS (gI m (g + 5)) h 4)) ∧ m' = m) := by
  refine ⟨plmX1_netted, nle rfl, ?_⟩
  have key : ∀ i, i ≤ 4 → Go mX1_netted (fun r m' => r = some (.int (ntS (gI m (g + 5)) h 4)) ∧ m' = m) 4 [some (.ref g), some (.int (nI h)), some (.int (ntS (gI m (g + 5)) h i)), some (.int (nI i))] [] (m) 0 0 := by
    refine loop_up 4 ?_ ?_
    · skip
      refine go_iload_n (q := 3) (i := 3) rfl rfl dX1_netted_4 ?_
      refine go_iconst (v := nI 4) (by decide) dX1_netted_5 ?_
      refine gn_ge (by omega) (by omega) (tgt := 31) dX1_netted_6 (by decide) (fun h6 => ?_) (fun h6 => by exfalso; omega)
      refine go_iload_n (q := 2) (i := 2) rfl rfl dX1_netted_31 ?_
      refine go_iret rfl ⟨Nat.zero_le _, Nat.zero_le _⟩ dX1_netted_32 ?_
      exact ⟨rfl, rfl⟩
    · intro i hi ih
      refine go_iload_n (q := 3) (i := 3) rfl rfl dX1_netted_4 ?_
      refine go_iconst (v := nI 4) (by decide) dX1_netted_5 ?_
      refine gn_ge (by omega) (by omega) (tgt := 31) dX1_netted_6 (by decide) (fun h6 => by exfalso; omega) (fun h6 => ?_)
      refine go_iload_n (q := 2) (i := 2) rfl rfl dX1_netted_9 ?_
      refine go_aload_n (q := 0) (i := 0) rfl rfl dX1_netted_10 ?_
      refine go_iload_n (q := 1) (i := 1) rfl rfl dX1_netted_11 ?_
      refine go_iload_n (q := 3) (i := 3) rfl rfl dX1_netted_12 ?_
      refine go_callV okmX1_loan lmX1_48 ⟨nle rfl, nle rfl⟩ hg.o ⟨by decide, rfl⟩ (ev_loan hg hh (by omega)) npmX1_loan rfl (nle rfl) ⟨nle rfl, nle rfl⟩ dX1_netted_13 ?_
      rintro _ _ ⟨rfl, rfl⟩
      refine go_c1 ?_
      refine go_aload_n (q := 0) (i := 0) rfl rfl dX1_netted_16 ?_
      refine go_iload_n (q := 3) (i := 3) rfl rfl dX1_netted_17 ?_
      refine go_iload_n (q := 1) (i := 1) rfl rfl dX1_netted_18 ?_
      refine go_callV okmX1_loan lmX1_48 ⟨nle rfl, nle rfl⟩ hg.o ⟨by decide, rfl⟩ (ev_loan hg (by omega) hh) npmX1_loan rfl (nle rfl) ⟨nle rfl, nle rfl⟩ dX1_netted_19 ?_
      rintro _ _ ⟨rfl, rfl⟩
      refine go_c1 ?_
      refine go_isub dX1_netted_22 ?_
      refine go_iadd dX1_netted_23 ?_
      refine go_istore_n (q := 2) (i := 2) rfl dX1_netted_24 (nle rfl) (nle rfl) ?_
      refine gn_inc (i := 3) (a := i) (q := 1) rfl dX1_netted_25 (nle rfl) rfl ?_
      refine go_goto (tgt := 4) dX1_netted_28 (by decide) ?_
      exact ih
  have k0 := key 0 (Nat.zero_le _)
  refine go_iconst (v := nI 0) (by decide) dX1_netted_0 ?_
  refine go_istore_n (q := 2) (i := 2) rfl dX1_netted_1 (nle rfl) (nle rfl) ?_
  refine go_iconst (v := nI 0) (by decide) dX1_netted_2 ?_
  refine go_istore_n (q := 3) (i := 3) rfl dX1_netted_3 (nle rfl) (nle rfl) ?_
  exact k0
