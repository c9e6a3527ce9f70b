theorem sI_sI {m : Me} {a : Nat} {r r' : Nat → Int32} : sI (sI m a r) a r' = sI m a r' := by
  unfold sI
  congr 2
  funext x
  show va_up (va_up m.2.1 a r) a r' x = va_up m.2.1 a r' x
  by_cases h : x = a
  · subst h; rw [up_s, up_s]
  · rw [up_n h, up_n h, up_n h]
theorem sI_self {m : Me} {a : Nat} : sI m a (gI m a) = m := by
  obtain ⟨n, I, J, R⟩ := m
  show (n, va_up I a (I a), J, R) = (n, I, J, R)
  congr 2
  funext x
  by_cases h : x = a
  · subst h; rw [up_s]
  · rw [up_n h]
theorem sJ_sJ {m : Me} {a : Nat} {r r' : Nat → Int64} : sJ (sJ m a r) a r' = sJ m a r' := by
  unfold sJ
  congr 3
  funext x
  show va_up (va_up m.2.2.1 a r) a r' x = va_up m.2.2.1 a r' x
  by_cases h : x = a
  · subst h; rw [up_s, up_s]
  · rw [up_n h, up_n h, up_n h]
theorem sJ_self {m : Me} {a : Nat} : sJ m a (gJ m a) = m := by
  obtain ⟨n, I, J, R⟩ := m
  show (n, I, va_up J a (J a), R) = (n, I, J, R)
  congr 3
  funext x
  by_cases h : x = a
  · subst h; rw [up_s]
  · rw [up_n h]
/-- the first i of A, then C -/
def cp {α : Type} (i : Nat) (A C : Nat → α) : Nat → α := fun k => if k < i then A k else C k
theorem cp_0 {α : Type} {A C : Nat → α} : cp 0 A C = C := by funext k; simp [cp]
theorem cp_s {A C : Nat → Int32} {i : Nat} : upd (cp i A C) i (A i) = cp (i + 1) A C := by
  funext k
  unfold upd cp
  by_cases h : k = i
  · subst h; simp
  · by_cases h2 : k < i
    · rw [if_neg h, if_pos h2, if_pos (by omega)]
    · rw [if_neg h, if_neg h2, if_neg (by omega)]
theorem cp_in {α : Type} {A C : Nat → α} {i k : Nat} (h : k < i) : cp i A C k = A k := if_pos h
theorem cp_out {α : Type} {A C : Nat → α} {i k : Nat} (h : i ≤ k) : cp i A C k = C k := if_neg (by omega)
/-- the sum of the first i -/
def sm (f : Nat → Int32) : Nat → Int32
  | 0 => 0
  | i + 1 => sm f i + f i
set_option maxRecDepth 100000 in
set_option maxHeartbeats 4000000 in
/-- copy: the rows of two arrays of n -/
theorem ev_copy {m : Me} {a c n : Nat} (hn : n < 2 ^ 31) (ha : Is m.1 a (1, n)) (hc : Is m.1 c (1, n)) (hne : a ≠ c) : Ev mX11_copy [.ref a, .ref c] m (fun r m' => r = none ∧ m' = sI m c (cp n (gI m a) (gI m c))) := by
  refine ⟨plmX11_copy, nle rfl, ?_⟩
  have key : ∀ i, i ≤ n → Go mX11_copy (fun r m' => r = none ∧ m' = sI m c (cp n (gI m a) (gI m c))) 2 [some (.ref a), some (.ref c), some (.int (nI i))] [] (sI m c (cp i (gI m a) (gI m c))) 0 0 := by
    refine loop_up n ?_ ?_
    · skip
      refine go_iload_n (q := 2) (i := 2) rfl rfl dX11_copy_2 ?_
      refine go_aload_n (q := 0) (i := 0) rfl rfl dX11_copy_3 ?_
      refine go_alenI ha dX11_copy_4 ?_
      refine gn_ge (by omega) (by omega) (tgt := 26) dX11_copy_5 (by decide) (fun h5 => ?_) (fun h5 => by exfalso; omega)
      refine go_vret rfl ⟨Nat.zero_le _, Nat.zero_le _⟩ dX11_copy_26 ?_
      exact ⟨rfl, rfl⟩
    · intro i hi ih
      refine go_iload_n (q := 2) (i := 2) rfl rfl dX11_copy_2 ?_
      refine go_aload_n (q := 0) (i := 0) rfl rfl dX11_copy_3 ?_
      refine go_alenI ha dX11_copy_4 ?_
      refine gn_ge (by omega) (by omega) (tgt := 26) dX11_copy_5 (by decide) (fun h5 => by exfalso; omega) (fun h5 => ?_)
      refine go_iload_n (q := 2) (i := 2) rfl rfl dX11_copy_8 ?_
      refine go_aload_n (q := 1) (i := 1) rfl rfl dX11_copy_9 ?_
      refine go_alenI hc dX11_copy_10 ?_
      refine gn_ge (by omega) (by omega) (tgt := 26) dX11_copy_11 (by decide) (fun h11 => by exfalso; omega) (fun h11 => ?_)
      refine go_aload_n (q := 1) (i := 1) rfl rfl dX11_copy_14 ?_
      refine go_iload_n (q := 2) (i := 2) rfl rfl dX11_copy_15 ?_
      refine go_aload_n (q := 0) (i := 0) rfl rfl dX11_copy_16 ?_
      refine go_iload_n (q := 2) (i := 2) rfl rfl dX11_copy_17 ?_
      refine go_iald (j := i) ha (by omega) (by first | decide | omega) rfl dX11_copy_18 ?_
      refine go_iast (j := i) hc (by omega) (by first | decide | omega) rfl dX11_copy_19 ?_
      rw [sI_sI, gI_s, gI_n hne, cp_s]
      refine gn_inc (i := 2) (a := i) (q := 1) rfl dX11_copy_20 (nle rfl) rfl ?_
      refine go_goto (tgt := 2) dX11_copy_23 (by decide) ?_
      exact ih
  have k0 := key 0 (Nat.zero_le _)
  rw [cp_0, sI_self] at k0
  refine go_iconst (v := nI 0) (by decide) dX11_copy_0 ?_
  refine go_istore_n (q := 2) (i := 2) rfl dX11_copy_1 (nle rfl) (nle rfl) ?_
  exact k0
set_option maxRecDepth 100000 in
set_option maxHeartbeats 4000000 in
/-- fill -/
theorem ev_fill {m : Me} {a n : Nat} {v : Int32} (hn : n < 2 ^ 31) (ha : Is m.1 a (1, n)) : Ev mX11_fill [.ref a, .int v] m (fun r m' => r = none ∧ m' = sI m a (cp n (fun _ => v) (gI m a))) := by
  refine ⟨plmX11_fill, nle rfl, ?_⟩
  have key : ∀ i, i ≤ n → Go mX11_fill (fun r m' => r = none ∧ m' = sI m a (cp n (fun _ => v) (gI m a))) 2 [some (.ref a), some (.int v), some (.int (nI i))] [] (sI m a (cp i (fun _ => v) (gI m a))) 0 0 := by
    refine loop_up n ?_ ?_
    · skip
      refine go_iload_n (q := 2) (i := 2) rfl rfl dX11_fill_2 ?_
      refine go_aload_n (q := 0) (i := 0) rfl rfl dX11_fill_3 ?_
      refine go_alenI ha dX11_fill_4 ?_
      refine gn_ge (by omega) (by omega) (tgt := 18) dX11_fill_5 (by decide) (fun h5 => ?_) (fun h5 => by exfalso; omega)
      refine go_vret rfl ⟨Nat.zero_le _, Nat.zero_le _⟩ dX11_fill_18 ?_
      exact ⟨rfl, rfl⟩
    · intro i hi ih
      refine go_iload_n (q := 2) (i := 2) rfl rfl dX11_fill_2 ?_
      refine go_aload_n (q := 0) (i := 0) rfl rfl dX11_fill_3 ?_
      refine go_alenI ha dX11_fill_4 ?_
      refine gn_ge (by omega) (by omega) (tgt := 18) dX11_fill_5 (by decide) (fun h5 => by exfalso; omega) (fun h5 => ?_)
      refine go_aload_n (q := 0) (i := 0) rfl rfl dX11_fill_8 ?_
      refine go_iload_n (q := 2) (i := 2) rfl rfl dX11_fill_9 ?_
      refine go_iload_n (q := 1) (i := 1) rfl rfl dX11_fill_10 ?_
      refine go_iast (j := i) ha (by omega) (by first | decide | omega) rfl dX11_fill_11 ?_
      rw [sI_sI, gI_s, show upd (cp i (fun _ => v) (gI m a)) i v = cp (i + 1) (fun _ => v) (gI m a) from cp_s (A := fun _ => v)]
      refine gn_inc (i := 2) (a := i) (q := 1) rfl dX11_fill_12 (nle rfl) rfl ?_
      refine go_goto (tgt := 2) dX11_fill_15 (by decide) ?_
      exact ih
  have k0 := key 0 (Nat.zero_le _)
  rw [cp_0, sI_self] at k0
  refine go_iconst (v := nI 0) (by decide) dX11_fill_0 ?_
  refine go_istore_n (q := 2) (i := 2) rfl dX11_fill_1 (nle rfl) (nle rfl) ?_
  exact k0
set_option maxRecDepth 100000 in
set_option maxHeartbeats 4000000 in
/-- sum -/
theorem ev_sum {m : Me} {a n : Nat} (hn : n < 2 ^ 31) (ha : Is m.1 a (1, n)) : Ev mX11_sum [.ref a] m (fun r m' => r = some (.int (sm (gI m a) n)) ∧ m' = m) := by
  refine ⟨plmX11_sum, nle rfl, ?_⟩
  have key : ∀ i, i ≤ n → Go mX11_sum (fun r m' => r = some (.int (sm (gI m a) n)) ∧ m' = m) 4 [some (.ref a), some (.int (sm (gI m a) i)), some (.int (nI i))] [] m 0 0 := by
    refine loop_up n ?_ ?_
    · skip
      refine go_iload_n (q := 2) (i := 2) rfl rfl dX11_sum_4 ?_
      refine go_aload_n (q := 0) (i := 0) rfl rfl dX11_sum_5 ?_
      refine go_alenI ha dX11_sum_6 ?_
      refine gn_ge (by omega) (by omega) (tgt := 22) dX11_sum_7 (by decide) (fun h7 => ?_) (fun h7 => by exfalso; omega)
      refine go_iload_n (q := 1) (i := 1) rfl rfl dX11_sum_22 ?_
      refine go_iret rfl ⟨Nat.zero_le _, Nat.zero_le _⟩ dX11_sum_23 ?_
      exact ⟨rfl, rfl⟩
    · intro i hi ih
      refine go_iload_n (q := 2) (i := 2) rfl rfl dX11_sum_4 ?_
      refine go_aload_n (q := 0) (i := 0) rfl rfl dX11_sum_5 ?_
      refine go_alenI ha dX11_sum_6 ?_
      refine gn_ge (by omega) (by omega) (tgt := 22) dX11_sum_7 (by decide) (fun h7 => by exfalso; omega) (fun h7 => ?_)
      refine go_iload_n (q := 1) (i := 1) rfl rfl dX11_sum_10 ?_
      refine go_aload_n (q := 0) (i := 0) rfl rfl dX11_sum_11 ?_
      refine go_iload_n (q := 2) (i := 2) rfl rfl dX11_sum_12 ?_
      refine go_iald (j := i) ha (by omega) (by first | decide | omega) rfl dX11_sum_13 ?_
      refine go_iadd dX11_sum_14 ?_
      refine go_istore_n (q := 1) (i := 1) rfl dX11_sum_15 (nle rfl) (nle rfl) ?_
      refine gn_inc (i := 2) (a := i) (q := 1) rfl dX11_sum_16 (nle rfl) rfl ?_
      refine go_goto (tgt := 4) dX11_sum_19 (by decide) ?_
      exact ih
  refine go_iconst (v := nI 0) (by decide) dX11_sum_0 ?_
  refine go_istore_n (q := 1) (i := 1) rfl dX11_sum_1 (nle rfl) (nle rfl) ?_
  refine go_iconst (v := nI 0) (by decide) dX11_sum_2 ?_
  refine go_istore_n (q := 2) (i := 2) rfl dX11_sum_3 (nle rfl) (nle rfl) ?_
  exact key 0 (Nat.zero_le _)
def wiS (v mo : Int32) : Int32 := if nI 0 < (if mo < v then mo else v) then (if mo < v then mo else v) else nI 0
def stA (w : Int32) : Int32 := if w = nI 1 then nI 1 else if w = nI 3 then -1 else nI 0
def stD (w : Int32) : Int32 := if w = nI 2 then nI 1 else if w = nI 4 then -1 else nI 0
def toldS (c : Int32) : Int32 := nI 10 * (c / nI 8) + (c - c / nI 8 * nI 8)
def ahS (n : Int32) : Int32 := if n < 0 then nI 0 else if nI 72 < n then nI 0 else nI 1
def thS (n : Int32) : Int32 := if n < 0 then nI 0 else if nI 99 < n then nI 0 else nI 1
set_option maxRecDepth 100000 in
set_option maxHeartbeats 4000000 in
theorem ev_within {m : Me} {v mo : Int32} : Ev mX11_within [.int v, .int mo] m (fun r m' => r = some (.int (wiS v mo)) ∧ m' = m) := by
  refine ⟨plmX11_within, nle rfl, ?_⟩
  refine go_iconst (v := nI 0) (by decide) dX11_within_0 ?_
  refine go_iload_n (q := 0) (i := 0) rfl rfl dX11_within_1 ?_
  refine go_iload_n (q := 1) (i := 1) rfl rfl dX11_within_2 ?_
  refine go_min okMin (wg4 71 rfl rfl) ⟨nle rfl, nle rfl⟩ ⟨Nat.zero_le _, Nat.zero_le _⟩ dX11_within_3 ?_
  refine go_max okMax (wg4 72 rfl rfl) ⟨nle rfl, nle rfl⟩ ⟨Nat.zero_le _, Nat.zero_le _⟩ dX11_within_6 ?_
  refine go_iret rfl ⟨Nat.zero_le _, Nat.zero_le _⟩ dX11_within_9 ?_
  exact ⟨rfl, rfl⟩
set_option maxRecDepth 100000 in
set_option maxHeartbeats 4000000 in
theorem ev_stA {m : Me} {w : Int32} : Ev mX11_stepAcross [.int w] m (fun r m' => r = some (.int (stA w)) ∧ m' = m) := by
  refine ⟨plmX11_stepAcross, nle rfl, ?_⟩
  refine go_iload_n (q := 0) (i := 0) rfl rfl dX11_stepAcross_0 ?_
  refine go_iconst (v := nI 1) (by decide) dX11_stepAcross_1 ?_
  refine go_icmp_ne (tgt := 9) dX11_stepAcross_2 (by decide) (fun h2 => ?_) (fun h2 => ?_)
  · skip
    refine go_iload_n (q := 0) (i := 0) rfl rfl dX11_stepAcross_9 ?_
    refine go_iconst (v := nI 3) (by decide) dX11_stepAcross_10 ?_
    refine go_icmp_ne (tgt := 18) dX11_stepAcross_11 (by decide) (fun h11 => ?_) (fun h11 => ?_)
    · skip
      refine go_iconst (v := nI 0) (by decide) dX11_stepAcross_18 ?_
      refine go_iret rfl ⟨Nat.zero_le _, Nat.zero_le _⟩ dX11_stepAcross_19 ?_
      refine ⟨?_, rfl⟩
      unfold stA
      repeat (first | rw [if_pos (by assumption)] | rw [if_neg (by assumption)])
    · skip
      refine go_iconst (v := -1) (by decide) dX11_stepAcross_14 ?_
      refine go_goto (tgt := 19) dX11_stepAcross_15 (by decide) ?_
      refine go_iret rfl ⟨Nat.zero_le _, Nat.zero_le _⟩ dX11_stepAcross_19 ?_
      refine ⟨?_, rfl⟩
      unfold stA
      repeat (first | rw [if_pos (by assumption)] | rw [if_neg (by assumption)])
  · skip
    refine go_iconst (v := nI 1) (by decide) dX11_stepAcross_5 ?_
    refine go_goto (tgt := 19) dX11_stepAcross_6 (by decide) ?_
    refine go_iret rfl ⟨Nat.zero_le _, Nat.zero_le _⟩ dX11_stepAcross_19 ?_
    refine ⟨?_, rfl⟩
    unfold stA
    repeat (first | rw [if_pos (by assumption)] | rw [if_neg (by assumption)])
set_option maxRecDepth 100000 in
set_option maxHeartbeats 4000000 in
theorem ev_stD {m : Me} {w : Int32} : Ev mX11_stepDown [.int w] m (fun r m' => r = some (.int (stD w)) ∧ m' = m) := by
  refine ⟨plmX11_stepDown, nle rfl, ?_⟩
  refine go_iload_n (q := 0) (i := 0) rfl rfl dX11_stepDown_0 ?_
  refine go_iconst (v := nI 2) (by decide) dX11_stepDown_1 ?_
  refine go_icmp_ne (tgt := 9) dX11_stepDown_2 (by decide) (fun h2 => ?_) (fun h2 => ?_)
  · skip
    refine go_iload_n (q := 0) (i := 0) rfl rfl dX11_stepDown_9 ?_
    refine go_iconst (v := nI 4) (by decide) dX11_stepDown_10 ?_
    refine go_icmp_ne (tgt := 18) dX11_stepDown_11 (by decide) (fun h11 => ?_) (fun h11 => ?_)
    · skip
      refine go_iconst (v := nI 0) (by decide) dX11_stepDown_18 ?_
      refine go_iret rfl ⟨Nat.zero_le _, Nat.zero_le _⟩ dX11_stepDown_19 ?_
      refine ⟨?_, rfl⟩
      unfold stD
      repeat (first | rw [if_pos (by assumption)] | rw [if_neg (by assumption)])
    · skip
      refine go_iconst (v := -1) (by decide) dX11_stepDown_14 ?_
      refine go_goto (tgt := 19) dX11_stepDown_15 (by decide) ?_
      refine go_iret rfl ⟨Nat.zero_le _, Nat.zero_le _⟩ dX11_stepDown_19 ?_
      refine ⟨?_, rfl⟩
      unfold stD
      repeat (first | rw [if_pos (by assumption)] | rw [if_neg (by assumption)])
  · skip
    refine go_iconst (v := nI 1) (by decide) dX11_stepDown_5 ?_
    refine go_goto (tgt := 19) dX11_stepDown_6 (by decide) ?_
    refine go_iret rfl ⟨Nat.zero_le _, Nat.zero_le _⟩ dX11_stepDown_19 ?_
    refine ⟨?_, rfl⟩
    unfold stD
    repeat (first | rw [if_pos (by assumption)] | rw [if_neg (by assumption)])
set_option maxRecDepth 100000 in
set_option maxHeartbeats 4000000 in
theorem ev_told {m : Me} {w : Int32} : Ev mX11_told [.int w] m (fun r m' => r = some (.int (toldS w)) ∧ m' = m) := by
  refine ⟨plmX11_told, nle rfl, ?_⟩
  refine go_bipush (v := nI 10) (by decide) dX11_told_0 ?_
  refine go_iload_n (q := 0) (i := 0) rfl rfl dX11_told_2 ?_
  refine go_bipush (v := nI 8) (by decide) dX11_told_3 ?_
  refine go_idiv (by decide) dX11_told_5 ?_
  refine go_imul dX11_told_6 ?_
  refine go_iload_n (q := 0) (i := 0) rfl rfl dX11_told_7 ?_
  refine go_bipush (v := nI 8) (by decide) dX11_told_8 ?_
  refine go_irem (by decide) dX11_told_10 ?_
  refine go_iadd dX11_told_11 ?_
  refine go_iret rfl ⟨Nat.zero_le _, Nat.zero_le _⟩ dX11_told_12 ?_
  exact ⟨rfl, rfl⟩
set_option maxRecDepth 100000 in
set_option maxHeartbeats 4000000 in
theorem ev_isAhead {m : Me} {w : Int32} : Ev mX11_isAhead [.int w] m (fun r m' => r = some (.int (ahS w)) ∧ m' = m) := by
  refine ⟨plmX11_isAhead, nle rfl, ?_⟩
  refine go_iload_n (q := 0) (i := 0) rfl rfl dX11_isAhead_0 ?_
  refine go_if_lt (tgt := 14) dX11_isAhead_1 (by decide) (fun h1 => ?_) (fun h1 => ?_)
  · skip
    refine go_iconst (v := nI 0) (by decide) dX11_isAhead_14 ?_
    refine go_zret rfl (by decide) ⟨Nat.zero_le _, Nat.zero_le _⟩ dX11_isAhead_15 ?_
    refine ⟨?_, rfl⟩
    unfold ahS
    repeat (first | rw [if_pos (by assumption)] | rw [if_neg (by assumption)])
  · skip
    refine go_iload_n (q := 0) (i := 0) rfl rfl dX11_isAhead_4 ?_
    refine go_bipush (v := nI 72) (by decide) dX11_isAhead_5 ?_
    refine go_icmp_gt (tgt := 14) dX11_isAhead_7 (by decide) (fun h7 => ?_) (fun h7 => ?_)
    · skip
      refine go_iconst (v := nI 0) (by decide) dX11_isAhead_14 ?_
      refine go_zret rfl (by decide) ⟨Nat.zero_le _, Nat.zero_le _⟩ dX11_isAhead_15 ?_
      refine ⟨?_, rfl⟩
      unfold ahS
      repeat (first | rw [if_pos (by assumption)] | rw [if_neg (by assumption)])
    · skip
      refine go_iconst (v := nI 1) (by decide) dX11_isAhead_10 ?_
      refine go_goto (tgt := 15) dX11_isAhead_11 (by decide) ?_
      refine go_zret rfl (by decide) ⟨Nat.zero_le _, Nat.zero_le _⟩ dX11_isAhead_15 ?_
      refine ⟨?_, rfl⟩
      unfold ahS
      repeat (first | rw [if_pos (by assumption)] | rw [if_neg (by assumption)])
set_option maxRecDepth 100000 in
set_option maxHeartbeats 4000000 in
theorem ev_isThick {m : Me} {w : Int32} : Ev mX11_isThick [.int w] m (fun r m' => r = some (.int (thS w)) ∧ m' = m) := by
  refine ⟨plmX11_isThick, nle rfl, ?_⟩
  refine go_iload_n (q := 0) (i := 0) rfl rfl dX11_isThick_0 ?_
  refine go_if_lt (tgt := 14) dX11_isThick_1 (by decide) (fun h1 => ?_) (fun h1 => ?_)
  · skip
    refine go_iconst (v := nI 0) (by decide) dX11_isThick_14 ?_
    refine go_zret rfl (by decide) ⟨Nat.zero_le _, Nat.zero_le _⟩ dX11_isThick_15 ?_
    refine ⟨?_, rfl⟩
    unfold thS
    repeat (first | rw [if_pos (by assumption)] | rw [if_neg (by assumption)])
  · skip
    refine go_iload_n (q := 0) (i := 0) rfl rfl dX11_isThick_4 ?_
    refine go_bipush (v := nI 99) (by decide) dX11_isThick_5 ?_
    refine go_icmp_gt (tgt := 14) dX11_isThick_7 (by decide) (fun h7 => ?_) (fun h7 => ?_)
    · skip
      refine go_iconst (v := nI 0) (by decide) dX11_isThick_14 ?_
      refine go_zret rfl (by decide) ⟨Nat.zero_le _, Nat.zero_le _⟩ dX11_isThick_15 ?_
      refine ⟨?_, rfl⟩
      unfold thS
      repeat (first | rw [if_pos (by assumption)] | rw [if_neg (by assumption)])
    · skip
      refine go_iconst (v := nI 1) (by decide) dX11_isThick_10 ?_
      refine go_goto (tgt := 15) dX11_isThick_11 (by decide) ?_
      refine go_zret rfl (by decide) ⟨Nat.zero_le _, Nat.zero_le _⟩ dX11_isThick_15 ?_
      refine ⟨?_, rfl⟩
      unfold thS
      repeat (first | rw [if_pos (by assumption)] | rw [if_neg (by assumption)])
