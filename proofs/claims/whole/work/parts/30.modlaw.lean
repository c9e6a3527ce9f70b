def inS (v a b : Int32) : Int32 := if v < a then nI 0 else if b < v then nI 0 else nI 1
def hlS (v a b : Int32) : Int32 := if a ≤ v then (if v ≤ b then v else b) else a
set_option maxRecDepth 100000 in
set_option maxHeartbeats 4000000 in
theorem ex_in {m : Me} {v a b : Int32} : Ev mX12_in [.int v, .int a, .int b] m (fun r m' => r = some (.int (inS v a b)) ∧ m' = m) := by
  refine ⟨plmX12_in, nle rfl, ?_⟩
  refine go_iload_n (q := 0) (i := 0) rfl rfl dX12_in_0 ?_
  refine go_iload_n (q := 1) (i := 1) rfl rfl dX12_in_1 ?_
  refine go_icmp_lt (tgt := 14) dX12_in_2 (by decide) (fun h2 => ?_) (fun h2 => ?_)
  · skip
    refine go_iconst (v := nI 0) (by decide) dX12_in_14 ?_
    refine go_zret rfl (by decide) ⟨Nat.zero_le _, Nat.zero_le _⟩ dX12_in_15 ?_
    refine ⟨?_, rfl⟩
    unfold inS
    repeat (first | rw [if_pos (by assumption)] | rw [if_neg (by assumption)])
  · skip
    refine go_iload_n (q := 0) (i := 0) rfl rfl dX12_in_5 ?_
    refine go_iload_n (q := 2) (i := 2) rfl rfl dX12_in_6 ?_
    refine go_icmp_gt (tgt := 14) dX12_in_7 (by decide) (fun h7 => ?_) (fun h7 => ?_)
    · skip
      refine go_iconst (v := nI 0) (by decide) dX12_in_14 ?_
      refine go_zret rfl (by decide) ⟨Nat.zero_le _, Nat.zero_le _⟩ dX12_in_15 ?_
      refine ⟨?_, rfl⟩
      unfold inS
      repeat (first | rw [if_pos (by assumption)] | rw [if_neg (by assumption)])
    · skip
      refine go_iconst (v := nI 1) (by decide) dX12_in_10 ?_
      refine go_goto (tgt := 15) dX12_in_11 (by decide) ?_
      refine go_zret rfl (by decide) ⟨Nat.zero_le _, Nat.zero_le _⟩ dX12_in_15 ?_
      refine ⟨?_, rfl⟩
      unfold inS
      repeat (first | rw [if_pos (by assumption)] | rw [if_neg (by assumption)])
set_option maxRecDepth 100000 in
set_option maxHeartbeats 4000000 in
theorem ex_held {m : Me} {v a b : Int32} : Ev mX12_held [.int v, .int a, .int b] m (fun r m' => r = some (.int (hlS v a b)) ∧ m' = m) := by
  refine ⟨plmX12_held, nle rfl, ?_⟩
  refine go_iload_n (q := 0) (i := 0) rfl rfl dX12_held_0 ?_
  refine go_iload_n (q := 1) (i := 1) rfl rfl dX12_held_1 ?_
  refine go_icmp_ge (tgt := 9) dX12_held_2 (by decide) (fun h2 => ?_) (fun h2 => ?_)
  · skip
    refine go_iload_n (q := 0) (i := 0) rfl rfl dX12_held_9 ?_
    refine go_iload_n (q := 2) (i := 2) rfl rfl dX12_held_10 ?_
    refine go_icmp_le (tgt := 18) dX12_held_11 (by decide) (fun h11 => ?_) (fun h11 => ?_)
    · skip
      refine go_iload_n (q := 0) (i := 0) rfl rfl dX12_held_18 ?_
      refine go_iret rfl ⟨Nat.zero_le _, Nat.zero_le _⟩ dX12_held_19 ?_
      refine ⟨?_, rfl⟩
      unfold hlS
      repeat (first | rw [if_pos (by assumption)] | rw [if_neg (by assumption)])
    · skip
      refine go_iload_n (q := 2) (i := 2) rfl rfl dX12_held_14 ?_
      refine go_goto (tgt := 19) dX12_held_15 (by decide) ?_
      refine go_iret rfl ⟨Nat.zero_le _, Nat.zero_le _⟩ dX12_held_19 ?_
      refine ⟨?_, rfl⟩
      unfold hlS
      repeat (first | rw [if_pos (by assumption)] | rw [if_neg (by assumption)])
  · skip
    refine go_iload_n (q := 1) (i := 1) rfl rfl dX12_held_5 ?_
    refine go_goto (tgt := 19) dX12_held_6 (by decide) ?_
    refine go_iret rfl ⟨Nat.zero_le _, Nat.zero_le _⟩ dX12_held_19 ?_
    refine ⟨?_, rfl⟩
    unfold hlS
    repeat (first | rw [if_pos (by assumption)] | rw [if_neg (by assumption)])
set_option maxRecDepth 100000 in
set_option maxHeartbeats 4000000 in
theorem ex_mixed {m : Me} {a b : Int32} : Ev mX12_mixed [.int a, .int b] m (fun r m' => r = some (.int (mxS a b)) ∧ m' = m) := by
  refine ⟨plmX12_mixed, nle rfl, ?_⟩
  refine go_iload_n (q := 0) (i := 0) rfl rfl dX12_mixed_0 ?_
  refine go_iload_n (q := 1) (i := 1) rfl rfl dX12_mixed_1 ?_
  refine go_ixor dX12_mixed_2 ?_
  refine go_ldcw (wg7 212 rfl rfl) dX12_mixed_3 ?_
  refine go_imul dX12_mixed_6 ?_
  refine go_sipush (v := nI 12345) (by decide) dX12_mixed_7 ?_
  refine go_iadd dX12_mixed_10 ?_
  refine go_istore_n (q := 2) (i := 2) rfl dX12_mixed_11 (nle rfl) (nle rfl) ?_
  refine go_iload_n (q := 2) (i := 2) rfl rfl dX12_mixed_12 ?_
  refine go_iload_n (q := 2) (i := 2) rfl rfl dX12_mixed_13 ?_
  refine go_bipush (v := nI 15) (by decide) dX12_mixed_14 ?_
  refine go_iushr dX12_mixed_16 ?_
  refine go_ixor dX12_mixed_17 ?_
  refine go_iret rfl ⟨Nat.zero_le _, Nat.zero_le _⟩ dX12_mixed_18 ?_
  exact ⟨rfl, rfl⟩
set_option maxRecDepth 100000 in
set_option maxHeartbeats 4000000 in
theorem ex_looks {m : Me} (hx : Wf12 m.1 (gR m)) {h : Int32} : Ev mX12_looks [.ref 274, .int h] m (fun r m' => r = none ∧ m' = sI m 313 (cp 9 (cvS h) (gI m 313))) := by
  refine ⟨plmX12_looks, nle rfl, ?_⟩
  have key : ∀ i, i ≤ 9 → Go mX12_looks (fun r m' => r = none ∧ m' = sI m 313 (cp 9 (cvS h) (gI m 313))) 2 [some (.ref 274), some (.int h), some (.int (nI i))] [] (sI m 313 (cp i (fun _ => nI 0) (gI m 313))) 0 0 := by
    refine loop_up 9 ?_ ?_
    · skip
      refine go_iload_n (q := 2) (i := 2) rfl rfl dX12_looks_2 ?_
      refine go_bipush (v := nI 9) (by decide) dX12_looks_3 ?_
      refine gn_ge (by omega) (by omega) (tgt := 21) dX12_looks_5 (by decide) (fun h5 => ?_) (fun h5 => by exfalso; omega)
      refine go_aload_n (q := 0) (i := 0) rfl rfl dX12_looks_21 ?_
      refine go_getR lf12_134 rfl hx.o hx.r55 dX12_looks_22 ?_
      refine go_iconst (v := nI 1) (by decide) dX12_looks_25 ?_
      refine go_iload_n (q := 1) (i := 1) rfl rfl dX12_looks_26 ?_
      refine go_bipush (v := nI 24) (by decide) dX12_looks_27 ?_
      refine go_irem (by decide) dX12_looks_29 ?_
      refine go_iast (j := 1) hx.i55 (by omega) (by first | decide | omega) rfl dX12_looks_30 ?_
      rw [sI_sI, gI_s]
      refine go_aload_n (q := 0) (i := 0) rfl rfl dX12_looks_31 ?_
      refine go_getR lf12_134 rfl hx.o hx.r55 dX12_looks_32 ?_
      refine go_iconst (v := nI 2) (by decide) dX12_looks_35 ?_
      refine go_iload_n (q := 1) (i := 1) rfl rfl dX12_looks_36 ?_
      refine go_bipush (v := nI 24) (by decide) dX12_looks_37 ?_
      refine go_idiv (by decide) dX12_looks_39 ?_
      refine go_iast (j := 2) hx.i55 (by omega) (by first | decide | omega) rfl dX12_looks_40 ?_
      rw [sI_sI, gI_s, upd_cp]
      refine go_vret rfl ⟨Nat.zero_le _, Nat.zero_le _⟩ dX12_looks_41 ?_
      exact ⟨rfl, rfl⟩
    · intro i hi ih
      refine go_iload_n (q := 2) (i := 2) rfl rfl dX12_looks_2 ?_
      refine go_bipush (v := nI 9) (by decide) dX12_looks_3 ?_
      refine gn_ge (by omega) (by omega) (tgt := 21) dX12_looks_5 (by decide) (fun h5 => by exfalso; omega) (fun h5 => ?_)
      refine go_aload_n (q := 0) (i := 0) rfl rfl dX12_looks_8 ?_
      refine go_getR lf12_134 rfl hx.o hx.r55 dX12_looks_9 ?_
      refine go_iload_n (q := 2) (i := 2) rfl rfl dX12_looks_12 ?_
      refine go_iconst (v := nI 0) (by decide) dX12_looks_13 ?_
      refine go_iast (j := i) hx.i55 (by omega) (by first | decide | omega) rfl dX12_looks_14 ?_
      rw [sI_sI, gI_s, show upd (cp i (fun _ => nI 0) (gI m 313)) i (nI 0) = cp (i + 1) (fun _ => nI 0) (gI m 313) from cp_s (A := fun _ => nI 0)]
      refine gn_inc (i := 2) (a := i) (q := 1) rfl dX12_looks_15 (nle rfl) rfl ?_
      refine go_goto (tgt := 2) dX12_looks_18 (by decide) ?_
      exact ih
  have k0 := key 0 (Nat.zero_le _)
  rw [cp_0, sI_self] at k0
  refine go_iconst (v := nI 0) (by decide) dX12_looks_0 ?_
  refine go_istore_n (q := 2) (i := 2) rfl dX12_looks_1 (nle rfl) (nle rfl) ?_
  exact k0
/-- the reference's code of a term, run: is it broken, its value, the pile -/
def tmF (code ci vars : Nat → Int32) : Nat → Nat → Nat → (Nat → Int32) → Bool × Int32 × (Nat → Int32)
  | 0, _, _, p => (false, p 0, p)
  | n + 1, c, t, p =>
    if code c < nI 2 then tmF code ci vars n (c + 1) (t + 1) (upd p t (if code c = 0 then ci c else vars (ci c).toNatClampNeg))
    else if code c = nI 5 ∧ p (t - 1) = 0 then (true, nI 0, p)
    else tmF code ci vars n (c + 1) (t - 1) (upd p (t - 1 - 1) (jo (code c) (p (t - 1 - 1)) (p (t - 1))))
/-- it never looks below its pile, and leaves one -/
def wfT (code ci : Nat → Int32) : Nat → Nat → Nat → Prop
  | 0, _, t => t = 1
  | n + 1, c, t => (code c = nI 0 ∧ t < 400 ∧ wfT code ci n (c + 1) (t + 1)) ∨ (code c = nI 1 ∧ t < 400 ∧ (∃ v, v < 9 ∧ ci c = nI v) ∧ wfT code ci n (c + 1) (t + 1)) ∨ ((code c = nI 2 ∨ code c = nI 3 ∨ code c = nI 4 ∨ code c = nI 5) ∧ 2 ≤ t ∧ wfT code ci n (c + 1) (t - 1))
theorem tmF_s {code ci vars : Nat → Int32} {n c t : Nat} {p : Nat → Int32} : tmF code ci vars (n + 1) c t p =
    if code c < nI 2 then tmF code ci vars n (c + 1) (t + 1) (upd p t (if code c = 0 then ci c else vars (ci c).toNatClampNeg))
    else if code c = nI 5 ∧ p (t - 1) = 0 then (true, nI 0, p)
    else tmF code ci vars n (c + 1) (t - 1) (upd p (t - 1 - 1) (jo (code c) (p (t - 1 - 1)) (p (t - 1)))) := rfl
set_option maxRecDepth 100000 in
set_option maxHeartbeats 8000000 in
/-- termOf -/
theorem ex_termOf {m : Me} {f n : Nat} (hx : Wf12 m.1 (gR m)) (hn : f + n ≤ 840) (hw : wfT (gI m 310) (gI m 311) n f 0) : Ev mX12_termOf [.ref 274, .int (nI f), .int (nI (f + n))] m (fun r m' => r = some (.int (tmF (gI m 310) (gI m 311) (gI m 313) n f 0 (gI m 314)).2.1) ∧ m' = sI (sI m 314 (tmF (gI m 310) (gI m 311) (gI m 313) n f 0 (gI m 314)).2.2) 274 (if (tmF (gI m 310) (gI m 311) (gI m 313) n f 0 (gI m 314)).1 = true then upd (gI m 274) 57 (nI 1) else gI m 274)) := by
  refine ⟨plmX12_termOf, nle rfl, ?_⟩
  generalize hres : tmF (gI m 310) (gI m 311) (gI m 313) n f 0 (gI m 314) = res
  have key : ∀ i, i ≤ n → ∀ (t : Nat) (p : Nat → Int32) (x5 x6 x7 : Option Value), t ≤ 400 → wfT (gI m 310) (gI m 311) (n - i) (f + i) t → tmF (gI m 310) (gI m 311) (gI m 313) (n - i) (f + i) t p = res → Go mX12_termOf (fun r m' => r = some (.int res.2.1) ∧ m' = sI (sI m 314 res.2.2) 274 (if res.1 = true then upd (gI m 274) 57 (nI 1) else gI m 274)) 5 [some (.ref 274), some (.int (nI f)), some (.int (nI (f + n))), some (.int (nI t)), some (.int (nI (f + i))), x5, x6, x7] [] (sI m 314 p) 0 0 := by
    refine loop_up n ?_ ?_
    · intro t p x5 x6 x7 ht hw2 he
      rw [Nat.sub_self] at he
      rw [show tmF (gI m 310) (gI m 311) (gI m 313) 0 (f + n) t p = (false, p 0, p) from rfl] at he
      refine go_iload (i := 4) rfl dX12_termOf_5 ?_
      refine go_iload_n (q := 2) (i := 2) rfl rfl dX12_termOf_7 ?_
      refine gn_ge (by omega) (by omega) (tgt := 165) dX12_termOf_8 (by decide) (fun h8 => ?_) (fun h8 => by exfalso; omega)
      refine go_aload_n (q := 0) (i := 0) rfl rfl dX12_termOf_165 ?_
      refine go_getR lf12_137 rfl hx.o hx.r56 dX12_termOf_166 ?_
      refine go_iconst (v := nI 0) (by decide) dX12_termOf_169 ?_
      refine go_iald (j := 0) hx.i56 (by omega) (by first | decide | omega) rfl dX12_termOf_170 ?_
      rw [gI_s]
      refine go_iret rfl ⟨Nat.zero_le _, Nat.zero_le _⟩ dX12_termOf_171 ?_
      rw [← he]
      refine ⟨rfl, ?_⟩
      rw [show (if (false, p 0, p).1 = true then upd (gI m 274) 57 (nI 1) else gI m 274) = gI (sI m 314 p) 274 from (gI_n (by decide)).symm, sI_self]
    · intro i hi ih t p x5 x6 x7 ht hw1 he
      rw [show n - i = (n - (i + 1)) + 1 by omega] at he hw1
      rw [tmF_s] at he
      rw [show f + i + 1 = f + (i + 1) by omega] at he
      rcases hw1 with ⟨hc, ht4, hw2⟩ | ⟨hc, ht4, ⟨v, hv, hvi⟩, hw2⟩ | ⟨hc, ht2, hw2⟩
      · rw [show f + i + 1 = f + (i + 1) by omega] at hw2
        rw [hc, if_pos (show nI 0 < nI 2 by decide), if_pos (show nI 0 = 0 from rfl)] at he
        refine go_iload (i := 4) rfl dX12_termOf_5 ?_
        refine go_iload_n (q := 2) (i := 2) rfl rfl dX12_termOf_7 ?_
        refine gn_ge (by omega) (by omega) (tgt := 165) dX12_termOf_8 (by decide) (fun h8 => by exfalso; omega) (fun h8 => ?_)
        refine go_aload_n (q := 0) (i := 0) rfl rfl dX12_termOf_11 ?_
        refine go_getR lf12_125 rfl hx.o hx.r51 dX12_termOf_12 ?_
        refine go_iload (i := 4) rfl dX12_termOf_15 ?_
        refine go_iald (j := (f + i)) hx.i51 (by omega) (by first | decide | omega) rfl dX12_termOf_17 ?_
        rw [gI_n (show 310 ≠ 314 by decide)]
        rw [hc]
        refine go_istore (i := 5) dX12_termOf_18 (nle rfl) (nle rfl) ?_
        refine go_iload (i := 5) rfl dX12_termOf_20 ?_
        refine go_iconst (v := nI 2) (by decide) dX12_termOf_22 ?_
        refine gn_ge (by omega) (by omega) (tgt := 65) dX12_termOf_23 (by decide) (fun h23 => by exfalso; omega) (fun h23 => ?_)
        refine go_aload_n (q := 0) (i := 0) rfl rfl dX12_termOf_26 ?_
        refine go_getR lf12_137 rfl hx.o hx.r56 dX12_termOf_27 ?_
        refine go_iload_n (q := 3) (i := 3) rfl rfl dX12_termOf_30 ?_
        refine go_iload (i := 5) rfl dX12_termOf_31 ?_
        refine gz_ne (by omega) (tgt := 46) dX12_termOf_33 (by decide) (fun h33 => by exfalso; omega) (fun h33 => ?_)
        refine go_aload_n (q := 0) (i := 0) rfl rfl dX12_termOf_36 ?_
        refine go_getR lf12_128 rfl hx.o hx.r52 dX12_termOf_37 ?_
        refine go_iload (i := 4) rfl dX12_termOf_40 ?_
        refine go_iald (j := (f + i)) hx.i52 (by omega) (by first | decide | omega) rfl dX12_termOf_42 ?_
        rw [gI_n (show 311 ≠ 314 by decide)]
        refine go_goto (tgt := 58) dX12_termOf_43 (by decide) ?_
        refine go_iast (j := t) hx.i56 (by omega) (by first | decide | omega) rfl dX12_termOf_58 ?_
        rw [sI_sI, gI_s]
        refine gn_inc (i := 3) (a := t) (q := 1) rfl dX12_termOf_59 (nle rfl) rfl ?_
        refine go_goto (tgt := 159) dX12_termOf_62 (by decide) ?_
        refine gn_inc (i := 4) (a := f + i) (q := 1) rfl dX12_termOf_159 (nle rfl) rfl ?_
        refine go_goto (tgt := 5) dX12_termOf_162 (by decide) ?_
        exact ih _ _ _ _ _ (by omega) hw2 he
      · rw [show f + i + 1 = f + (i + 1) by omega] at hw2
        rw [hc, if_pos (show nI 1 < nI 2 by decide), if_neg (show ¬ nI 1 = 0 by decide), hvi, nI_clamp (by omega)] at he
        refine go_iload (i := 4) rfl dX12_termOf_5 ?_
        refine go_iload_n (q := 2) (i := 2) rfl rfl dX12_termOf_7 ?_
        refine gn_ge (by omega) (by omega) (tgt := 165) dX12_termOf_8 (by decide) (fun h8 => by exfalso; omega) (fun h8 => ?_)
        refine go_aload_n (q := 0) (i := 0) rfl rfl dX12_termOf_11 ?_
        refine go_getR lf12_125 rfl hx.o hx.r51 dX12_termOf_12 ?_
        refine go_iload (i := 4) rfl dX12_termOf_15 ?_
        refine go_iald (j := (f + i)) hx.i51 (by omega) (by first | decide | omega) rfl dX12_termOf_17 ?_
        rw [gI_n (show 310 ≠ 314 by decide)]
        rw [hc]
        refine go_istore (i := 5) dX12_termOf_18 (nle rfl) (nle rfl) ?_
        refine go_iload (i := 5) rfl dX12_termOf_20 ?_
        refine go_iconst (v := nI 2) (by decide) dX12_termOf_22 ?_
        refine gn_ge (by omega) (by omega) (tgt := 65) dX12_termOf_23 (by decide) (fun h23 => by exfalso; omega) (fun h23 => ?_)
        refine go_aload_n (q := 0) (i := 0) rfl rfl dX12_termOf_26 ?_
        refine go_getR lf12_137 rfl hx.o hx.r56 dX12_termOf_27 ?_
        refine go_iload_n (q := 3) (i := 3) rfl rfl dX12_termOf_30 ?_
        refine go_iload (i := 5) rfl dX12_termOf_31 ?_
        refine gz_ne (by omega) (tgt := 46) dX12_termOf_33 (by decide) (fun h33 => ?_) (fun h33 => by exfalso; omega)
        refine go_aload_n (q := 0) (i := 0) rfl rfl dX12_termOf_46 ?_
        refine go_getR lf12_134 rfl hx.o hx.r55 dX12_termOf_47 ?_
        refine go_aload_n (q := 0) (i := 0) rfl rfl dX12_termOf_50 ?_
        refine go_getR lf12_128 rfl hx.o hx.r52 dX12_termOf_51 ?_
        refine go_iload (i := 4) rfl dX12_termOf_54 ?_
        refine go_iald (j := (f + i)) hx.i52 (by omega) (by first | decide | omega) rfl dX12_termOf_56 ?_
        rw [gI_n (show 311 ≠ 314 by decide)]
        rw [hvi]
        refine go_iald (j := v) hx.i55 (by omega) (by first | decide | omega) rfl dX12_termOf_57 ?_
        rw [gI_n (show 313 ≠ 314 by decide)]
        refine go_iast (j := t) hx.i56 (by omega) (by first | decide | omega) rfl dX12_termOf_58 ?_
        rw [sI_sI, gI_s]
        refine gn_inc (i := 3) (a := t) (q := 1) rfl dX12_termOf_59 (nle rfl) rfl ?_
        refine go_goto (tgt := 159) dX12_termOf_62 (by decide) ?_
        refine gn_inc (i := 4) (a := f + i) (q := 1) rfl dX12_termOf_159 (nle rfl) rfl ?_
        refine go_goto (tgt := 5) dX12_termOf_162 (by decide) ?_
        exact ih _ _ _ _ _ (by omega) hw2 he
      · rw [show f + i + 1 = f + (i + 1) by omega] at hw2
        have hn2 : ¬ (gI m 310) (f + i) < nI 2 := by rcases hc with h | h | h | h <;> rw [h] <;> decide
        rw [if_neg hn2] at he
        refine go_iload (i := 4) rfl dX12_termOf_5 ?_
        refine go_iload_n (q := 2) (i := 2) rfl rfl dX12_termOf_7 ?_
        refine gn_ge (by omega) (by omega) (tgt := 165) dX12_termOf_8 (by decide) (fun h8 => by exfalso; omega) (fun h8 => ?_)
        refine go_aload_n (q := 0) (i := 0) rfl rfl dX12_termOf_11 ?_
        refine go_getR lf12_125 rfl hx.o hx.r51 dX12_termOf_12 ?_
        refine go_iload (i := 4) rfl dX12_termOf_15 ?_
        refine go_iald (j := (f + i)) hx.i51 (by omega) (by first | decide | omega) rfl dX12_termOf_17 ?_
        rw [gI_n (show 310 ≠ 314 by decide)]
        refine go_istore (i := 5) dX12_termOf_18 (nle rfl) (nle rfl) ?_
        refine go_iload (i := 5) rfl dX12_termOf_20 ?_
        refine go_iconst (v := nI 2) (by decide) dX12_termOf_22 ?_
        refine go_icmp_ge (tgt := 65) dX12_termOf_23 (by decide) (fun h23 => ?_) (fun h23 => absurd (Int32.not_le.mp h23) hn2)
        refine go_iinc (i := 3) (x := nI t) dX12_termOf_65 (nle rfl) rfl ?_
        rw [show nI t + Int32.ofInt (-1) = nI (t - 1) from by rw [show Int32.ofInt (-1) = -(nI 1) from rfl, ← Int32.sub_eq_add_neg, pk_sub (by omega)]]
        refine go_aload_n (q := 0) (i := 0) rfl rfl dX12_termOf_68 ?_
        refine go_getR lf12_137 rfl hx.o hx.r56 dX12_termOf_69 ?_
        refine go_iload_n (q := 3) (i := 3) rfl rfl dX12_termOf_72 ?_
        refine go_iconst (v := nI 1) (by decide) dX12_termOf_73 ?_
        refine gn_sub (by omega) dX12_termOf_74 ?_
        refine go_iald (j := ((t - 1) - 1)) hx.i56 (by omega) (by first | decide | omega) rfl dX12_termOf_75 ?_
        rw [gI_s]
        refine go_istore (i := 6) dX12_termOf_76 (nle rfl) (nle rfl) ?_
        refine go_aload_n (q := 0) (i := 0) rfl rfl dX12_termOf_78 ?_
        refine go_getR lf12_137 rfl hx.o hx.r56 dX12_termOf_79 ?_
        refine go_iload_n (q := 3) (i := 3) rfl rfl dX12_termOf_82 ?_
        refine go_iald (j := (t - 1)) hx.i56 (by omega) (by first | decide | omega) rfl dX12_termOf_83 ?_
        rw [gI_s]
        refine go_istore (i := 7) dX12_termOf_84 (nle rfl) (nle rfl) ?_
        refine go_iload (i := 5) rfl dX12_termOf_86 ?_
        refine go_iconst (v := nI 5) (by decide) dX12_termOf_88 ?_
        refine go_icmp_ne (tgt := 104) dX12_termOf_89 (by decide) (fun h89 => ?_) (fun h89 => ?_)
        · skip
          have hnb : ¬ ((gI m 310) (f + i) = nI 5 ∧ p (t - 1) = 0) := fun q => h89 q.1
          rw [if_neg hnb] at he
          have hp0 : ¬ (gI m 310) (f + i) = nI 2 → ¬ (gI m 310) (f + i) = nI 3 → ¬ (gI m 310) (f + i) = nI 4 → ¬ p (t - 1) = 0 := fun a b d z => hnb ⟨by rcases hc with h | h | h | h; exact absurd h a; exact absurd h b; exact absurd h d; exact h, z⟩
          refine go_aload_n (q := 0) (i := 0) rfl rfl dX12_termOf_104 ?_
          refine go_getR lf12_137 rfl hx.o hx.r56 dX12_termOf_105 ?_
          refine go_iload_n (q := 3) (i := 3) rfl rfl dX12_termOf_108 ?_
          refine go_iconst (v := nI 1) (by decide) dX12_termOf_109 ?_
          refine gn_sub (by omega) dX12_termOf_110 ?_
          refine go_iload (i := 5) rfl dX12_termOf_111 ?_
          refine go_iconst (v := nI 2) (by decide) dX12_termOf_113 ?_
          refine go_icmp_ne (tgt := 125) dX12_termOf_114 (by decide) (fun h114 => ?_) (fun h114 => ?_)
          · skip
            refine go_iload (i := 5) rfl dX12_termOf_125 ?_
            refine go_iconst (v := nI 3) (by decide) dX12_termOf_127 ?_
            refine go_icmp_ne (tgt := 139) dX12_termOf_128 (by decide) (fun h128 => ?_) (fun h128 => ?_)
            · skip
              refine go_iload (i := 5) rfl dX12_termOf_139 ?_
              refine go_iconst (v := nI 4) (by decide) dX12_termOf_141 ?_
              refine go_icmp_ne (tgt := 153) dX12_termOf_142 (by decide) (fun h142 => ?_) (fun h142 => ?_)
              · skip
                refine go_iload (i := 6) rfl dX12_termOf_153 ?_
                refine go_iload (i := 7) rfl dX12_termOf_155 ?_
                refine go_idiv (hp0 h114 h128 h142) dX12_termOf_157 ?_
                refine go_iast (j := ((t - 1) - 1)) hx.i56 (by omega) (by first | decide | omega) rfl dX12_termOf_158 ?_
                rw [sI_sI, gI_s]
                refine gn_inc (i := 4) (a := f + i) (q := 1) rfl dX12_termOf_159 (nle rfl) rfl ?_
                refine go_goto (tgt := 5) dX12_termOf_162 (by decide) ?_
                rw [show jo ((gI m 310) (f + i)) (p (t - 1 - 1)) (p (t - 1)) = p (t - 1 - 1) / p (t - 1) from by unfold jo; rw [if_neg h114, if_neg h128, if_neg h142, if_neg (hp0 h114 h128 h142)]] at he
                exact ih _ _ _ _ _ (by omega) hw2 he
              · skip
                refine go_iload (i := 6) rfl dX12_termOf_145 ?_
                refine go_iload (i := 7) rfl dX12_termOf_147 ?_
                refine go_imul dX12_termOf_149 ?_
                refine go_goto (tgt := 158) dX12_termOf_150 (by decide) ?_
                refine go_iast (j := ((t - 1) - 1)) hx.i56 (by omega) (by first | decide | omega) rfl dX12_termOf_158 ?_
                rw [sI_sI, gI_s]
                refine gn_inc (i := 4) (a := f + i) (q := 1) rfl dX12_termOf_159 (nle rfl) rfl ?_
                refine go_goto (tgt := 5) dX12_termOf_162 (by decide) ?_
                rw [show jo ((gI m 310) (f + i)) (p (t - 1 - 1)) (p (t - 1)) = p (t - 1 - 1) * p (t - 1) from by unfold jo; rw [if_neg h114, if_neg h128, if_pos h142]] at he
                exact ih _ _ _ _ _ (by omega) hw2 he
            · skip
              refine go_iload (i := 6) rfl dX12_termOf_131 ?_
              refine go_iload (i := 7) rfl dX12_termOf_133 ?_
              refine go_isub dX12_termOf_135 ?_
              refine go_goto (tgt := 158) dX12_termOf_136 (by decide) ?_
              refine go_iast (j := ((t - 1) - 1)) hx.i56 (by omega) (by first | decide | omega) rfl dX12_termOf_158 ?_
              rw [sI_sI, gI_s]
              refine gn_inc (i := 4) (a := f + i) (q := 1) rfl dX12_termOf_159 (nle rfl) rfl ?_
              refine go_goto (tgt := 5) dX12_termOf_162 (by decide) ?_
              rw [show jo ((gI m 310) (f + i)) (p (t - 1 - 1)) (p (t - 1)) = p (t - 1 - 1) - p (t - 1) from by unfold jo; rw [if_neg h114, if_pos h128]] at he
              exact ih _ _ _ _ _ (by omega) hw2 he
          · skip
            refine go_iload (i := 6) rfl dX12_termOf_117 ?_
            refine go_iload (i := 7) rfl dX12_termOf_119 ?_
            refine go_iadd dX12_termOf_121 ?_
            refine go_goto (tgt := 158) dX12_termOf_122 (by decide) ?_
            refine go_iast (j := ((t - 1) - 1)) hx.i56 (by omega) (by first | decide | omega) rfl dX12_termOf_158 ?_
            rw [sI_sI, gI_s]
            refine gn_inc (i := 4) (a := f + i) (q := 1) rfl dX12_termOf_159 (nle rfl) rfl ?_
            refine go_goto (tgt := 5) dX12_termOf_162 (by decide) ?_
            rw [show jo ((gI m 310) (f + i)) (p (t - 1 - 1)) (p (t - 1)) = p (t - 1 - 1) + p (t - 1) from by unfold jo; rw [if_pos h114]] at he
            exact ih _ _ _ _ _ (by omega) hw2 he
        · skip
          refine go_iload (i := 7) rfl dX12_termOf_92 ?_
          refine go_if_ne (tgt := 104) dX12_termOf_94 (by decide) (fun h94 => ?_) (fun h94 => ?_)
          · skip
            have hnb : ¬ ((gI m 310) (f + i) = nI 5 ∧ p (t - 1) = 0) := fun q => h94 q.2
            rw [if_neg hnb] at he
            have hp0 : ¬ (gI m 310) (f + i) = nI 2 → ¬ (gI m 310) (f + i) = nI 3 → ¬ (gI m 310) (f + i) = nI 4 → ¬ p (t - 1) = 0 := fun a b d z => hnb ⟨by rcases hc with h | h | h | h; exact absurd h a; exact absurd h b; exact absurd h d; exact h, z⟩
            refine go_aload_n (q := 0) (i := 0) rfl rfl dX12_termOf_104 ?_
            refine go_getR lf12_137 rfl hx.o hx.r56 dX12_termOf_105 ?_
            refine go_iload_n (q := 3) (i := 3) rfl rfl dX12_termOf_108 ?_
            refine go_iconst (v := nI 1) (by decide) dX12_termOf_109 ?_
            refine gn_sub (by omega) dX12_termOf_110 ?_
            refine go_iload (i := 5) rfl dX12_termOf_111 ?_
            refine go_iconst (v := nI 2) (by decide) dX12_termOf_113 ?_
            refine go_icmp_ne (tgt := 125) dX12_termOf_114 (by decide) (fun h114 => ?_) (fun h114 => ?_)
            · skip
              refine go_iload (i := 5) rfl dX12_termOf_125 ?_
              refine go_iconst (v := nI 3) (by decide) dX12_termOf_127 ?_
              refine go_icmp_ne (tgt := 139) dX12_termOf_128 (by decide) (fun h128 => ?_) (fun h128 => ?_)
              · skip
                refine go_iload (i := 5) rfl dX12_termOf_139 ?_
                refine go_iconst (v := nI 4) (by decide) dX12_termOf_141 ?_
                refine go_icmp_ne (tgt := 153) dX12_termOf_142 (by decide) (fun h142 => ?_) (fun h142 => ?_)
                · skip
                  refine go_iload (i := 6) rfl dX12_termOf_153 ?_
                  refine go_iload (i := 7) rfl dX12_termOf_155 ?_
                  refine go_idiv (hp0 h114 h128 h142) dX12_termOf_157 ?_
                  refine go_iast (j := ((t - 1) - 1)) hx.i56 (by omega) (by first | decide | omega) rfl dX12_termOf_158 ?_
                  rw [sI_sI, gI_s]
                  refine gn_inc (i := 4) (a := f + i) (q := 1) rfl dX12_termOf_159 (nle rfl) rfl ?_
                  refine go_goto (tgt := 5) dX12_termOf_162 (by decide) ?_
                  rw [show jo ((gI m 310) (f + i)) (p (t - 1 - 1)) (p (t - 1)) = p (t - 1 - 1) / p (t - 1) from by unfold jo; rw [if_neg h114, if_neg h128, if_neg h142, if_neg (hp0 h114 h128 h142)]] at he
                  exact ih _ _ _ _ _ (by omega) hw2 he
                · skip
                  refine go_iload (i := 6) rfl dX12_termOf_145 ?_
                  refine go_iload (i := 7) rfl dX12_termOf_147 ?_
                  refine go_imul dX12_termOf_149 ?_
                  refine go_goto (tgt := 158) dX12_termOf_150 (by decide) ?_
                  refine go_iast (j := ((t - 1) - 1)) hx.i56 (by omega) (by first | decide | omega) rfl dX12_termOf_158 ?_
                  rw [sI_sI, gI_s]
                  refine gn_inc (i := 4) (a := f + i) (q := 1) rfl dX12_termOf_159 (nle rfl) rfl ?_
                  refine go_goto (tgt := 5) dX12_termOf_162 (by decide) ?_
                  rw [show jo ((gI m 310) (f + i)) (p (t - 1 - 1)) (p (t - 1)) = p (t - 1 - 1) * p (t - 1) from by unfold jo; rw [if_neg h114, if_neg h128, if_pos h142]] at he
                  exact ih _ _ _ _ _ (by omega) hw2 he
              · skip
                refine go_iload (i := 6) rfl dX12_termOf_131 ?_
                refine go_iload (i := 7) rfl dX12_termOf_133 ?_
                refine go_isub dX12_termOf_135 ?_
                refine go_goto (tgt := 158) dX12_termOf_136 (by decide) ?_
                refine go_iast (j := ((t - 1) - 1)) hx.i56 (by omega) (by first | decide | omega) rfl dX12_termOf_158 ?_
                rw [sI_sI, gI_s]
                refine gn_inc (i := 4) (a := f + i) (q := 1) rfl dX12_termOf_159 (nle rfl) rfl ?_
                refine go_goto (tgt := 5) dX12_termOf_162 (by decide) ?_
                rw [show jo ((gI m 310) (f + i)) (p (t - 1 - 1)) (p (t - 1)) = p (t - 1 - 1) - p (t - 1) from by unfold jo; rw [if_neg h114, if_pos h128]] at he
                exact ih _ _ _ _ _ (by omega) hw2 he
            · skip
              refine go_iload (i := 6) rfl dX12_termOf_117 ?_
              refine go_iload (i := 7) rfl dX12_termOf_119 ?_
              refine go_iadd dX12_termOf_121 ?_
              refine go_goto (tgt := 158) dX12_termOf_122 (by decide) ?_
              refine go_iast (j := ((t - 1) - 1)) hx.i56 (by omega) (by first | decide | omega) rfl dX12_termOf_158 ?_
              rw [sI_sI, gI_s]
              refine gn_inc (i := 4) (a := f + i) (q := 1) rfl dX12_termOf_159 (nle rfl) rfl ?_
              refine go_goto (tgt := 5) dX12_termOf_162 (by decide) ?_
              rw [show jo ((gI m 310) (f + i)) (p (t - 1 - 1)) (p (t - 1)) = p (t - 1 - 1) + p (t - 1) from by unfold jo; rw [if_pos h114]] at he
              exact ih _ _ _ _ _ (by omega) hw2 he
          · skip
            refine go_aload_n (q := 0) (i := 0) rfl rfl dX12_termOf_97 ?_
            refine go_iconst (v := nI 1) (by decide) dX12_termOf_98 ?_
            refine go_putZ lf12_357 rfl ⟨by decide, by decide⟩ (Or.inl rfl) hx.o dX12_termOf_99 ?_
            refine go_iconst (v := nI 0) (by decide) dX12_termOf_102 ?_
            refine go_iret rfl ⟨Nat.zero_le _, Nat.zero_le _⟩ dX12_termOf_103 ?_
            rw [if_pos ⟨h89, h94⟩] at he
            rw [← he]
            refine ⟨rfl, ?_⟩
            rw [gI_n (show 274 ≠ 314 by decide)]
            rfl
  have k0 := key 0 (Nat.zero_le _) 0 (gI m 314) none none none (by omega) hw hres
  rw [sI_self] at k0
  refine go_iconst (v := nI 0) (by decide) dX12_termOf_0 ?_
  refine go_istore_n (q := 3) (i := 3) rfl dX12_termOf_1 (nle rfl) (nle rfl) ?_
  refine go_iload_n (q := 1) (i := 1) rfl rfl dX12_termOf_2 ?_
  refine go_istore (i := 4) dX12_termOf_3 (nle rfl) (nle rfl) ?_
  exact k0
