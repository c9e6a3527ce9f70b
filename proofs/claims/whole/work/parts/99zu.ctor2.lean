theorem go_M {M : MD} {Q : Option Value → Me → Prop} {pc : Nat} {L : List (Option Value)} {S : List Value} {m m' : Me} {cc zz : Nat} (e : m = m') (h : Go M Q pc L S m' cc zz) : Go M Q pc L S m cc zz := by
  subst e
  exact h
def TR6 (a : Nat) : Nat → Option Nat := (va_up (fun _ => none) 0 (some (a + 1)))
/-- the ring's goings -/
def rgO (R : Nat → Nat → Option Nat) (a : Nat) : Nat → Nat → Nat → Option Nat
  | 0 => R
  | i + 1 => va_up (rgO R a i) (a + 6 * i) (TR1 (a + 6 * i))
def rgI (a i : Nat) : Nat → Option Nat := fun j => if j < i then some (a + 6 * j) else none
theorem rgI_0 {a : Nat} : rgI a 0 = fun _ => none := by
  funext j
  exact if_neg (Nat.not_lt_zero j)
theorem rgI_s {a i : Nat} : va_up (rgI a i) i (some (a + 6 * i)) = rgI a (i + 1) := by
  funext j
  by_cases e : j = i
  · subst e
    rw [up_s]
    exact (if_pos (Nat.lt_succ_self j)).symm
  · rw [up_n e]
    unfold rgI
    by_cases h : j < i
    · rw [if_pos h, if_pos (by omega)]
    · rw [if_neg h, if_neg (by omega)]
theorem Zr.rg {I : Nat → Nat → Int32} {J : Nat → Nat → Int64} {R : Nat → Nat → Option Nat} {n a i : Nat} (h : Zr n I J R) (hn : n ≤ a) : Zr (a + 6 * i) I J (rgO R a i) := by
  induction i with
  | zero => exact h.le (by omega)
  | succ i ih => exact Zr.up (ih.le (by omega)) (by omega)
theorem rg_up {R : Nat → Nat → Option Nat} {o a q : Nat} {T r r' T1 : Nat → Option Nat} (h1 : q ≠ o) (h2 : q ≠ a) (h3 : a ≠ o) : va_up (va_up (va_up (va_up R a r) o T) q T1) a r' = va_up (va_up (va_up R q T1) a r') o T := by
  rw [up_sw h1, up_sw h3, up_sw h2, up_up]
set_option maxRecDepth 100000 in
set_option maxHeartbeats 4000000 in
/-- the past is made -/
theorem ev_i6 {I : Nat → Nat → Int32} {J : Nat → Nat → Int64} {R : Nat → Nat → Option Nat} {a : Nat} (hz : Zr (a + 1) I J R) (hs : SHs a [(0, 6), (5, 30)]) (hg : ∀ j, j < 30 → SHs (a + 2 + 6 * j) [(0, 1), (1, 40), (1, 40), (1, 4), (1, 4), (1, 16)]) : Ev mX6_init [.ref a] (a + 1, I, J, va_up R a (fun _ => none)) (fun o m' => o = none ∧ m' = (a + 182, I, J, va_up (va_up (rgO R (a + 2) 30) (a + 1) (rgI (a + 2) 30)) a (TR6 a))) := by
  refine ⟨plmX6_init, nle rfl, ?_⟩
  have key : ∀ i, i ≤ 30 → Go mX6_init (fun o m' => o = none ∧ m' = (a + 182, I, J, va_up (va_up (rgO R (a + 2) 30) (a + 1) (rgI (a + 2) 30)) a (TR6 a))) 15 [some (.ref a), some (.int (nI i))] [] (a + 2 + 6 * i, I, J, va_up (va_up (rgO R (a + 2) i) (a + 1) (rgI (a + 2) i)) a (TR6 a)) (1 + 6 * i) (30 + 110 * i) := by
    refine loop_up 30 ?_ ?_
    · refine go_iload_n (q := 1) (i := 1) rfl rfl dX6_init_15 ?_
      refine go_bipush (v := nI 30) (by decide) dX6_init_16 ?_
      refine gn_ge (by omega) (by omega) (tgt := 40) dX6_init_18 (by decide) (fun h18 => ?_) (fun h18 => by exfalso; omega)
      exact go_vret rfl ⟨nle rfl, nle rfl⟩ dX6_init_40 ⟨rfl, rfl⟩
    · intro i hi ih
      refine go_iload_n (q := 1) (i := 1) rfl rfl dX6_init_15 ?_
      refine go_bipush (v := nI 30) (by decide) dX6_init_16 ?_
      refine gn_ge (by omega) (by omega) (tgt := 40) dX6_init_18 (by decide) (fun h18 => by exfalso; omega) (fun h18 => ?_)
      refine go_aload_n (q := 0) (i := 0) rfl rfl dX6_init_21 ?_
      refine go_getR (r := a + 1) lf6_11 rfl ⟨hs 0 (by decide), by show a < a + 2 + 6 * i; omega⟩ (by show va_up (va_up (rgO R (a + 2) i) (a + 1) (rgI (a + 2) i)) a (TR6 a) a 0 = _; rw [up_s]; rfl) dX6_init_22 ?_
      refine go_iload_n (q := 1) (i := 1) rfl rfl dX6_init_25 ?_
      refine go_newE (ci := 1) (Zr.up (Zr.up (hz.rg (by omega)) (by omega)) (by omega)) (wg1 220 rfl rfl) (by decide) (wg1 180 rfl rfl) (wg1 11 rfl rfl) (hg i hi 0 (by decide)) ⟨by show 1 + 6 * i + 1 ≤ 181; omega, by show 30 + 110 * i + 6 ≤ 3330; omega⟩ dX6_init_26 ?_
      refine go_dup rfl dX6_init_29 ?_
      refine go_callI okmX1_init lmX6_17 ⟨nle rfl, nle rfl⟩ rfl (ev_i1 (Zr.up (Zr.up ((hz.rg (a := a + 2) (i := i) (by omega)).le (by omega)) (by omega)) (by omega)) (hg i hi)) npmX1_init rfl (nle rfl) ⟨by show 1 + 6 * i + 1 + 5 ≤ 181; omega, by show 30 + 110 * i + 6 + 104 ≤ 3330; omega⟩ dX6_init_30 ?_
      rintro _ _ ⟨rfl, rfl⟩
      refine go_cN (c' := 1 + 6 * (i + 1)) (z' := 30 + 110 * (i + 1)) (by show 1 + 6 * i + 1 + 5 = _; omega) (by show 30 + 110 * i + 6 + 104 = _; omega) ?_
      refine go_aast (a := a + 1) (n := 30) (j := i) ⟨hs 1 (by decide), by show a + 1 < a + 2 + 6 * i + 6; omega⟩ hi (by decide) rfl ⟨hg i hi 0 (by decide), by show a + 2 + 6 * i < a + 2 + 6 * i + 6; omega⟩ dX6_init_33 ?_
      refine gn_inc (i := 1) (a := i) (q := 1) rfl dX6_init_34 (nle rfl) rfl ?_
      refine go_goto (tgt := 15) dX6_init_37 (by decide) ?_
      refine go_M ?_ ih
      show (a + 2 + 6 * i + 6, I, J, va_up (va_up (va_up (va_up (rgO R (a + 2) i) (a + 1) (rgI (a + 2) i)) a (TR6 a)) (a + 2 + 6 * i) (TR1 (a + 2 + 6 * i))) (a + 1) (va_up (va_up (va_up (va_up (rgO R (a + 2) i) (a + 1) (rgI (a + 2) i)) a (TR6 a)) (a + 2 + 6 * i) (TR1 (a + 2 + 6 * i)) (a + 1)) i (some (a + 2 + 6 * i)))) = _
      rw [up_n (show a + 1 ≠ a + 2 + 6 * i by omega), up_n (show a + 1 ≠ a by omega), up_s, rgI_s, rg_up (by omega) (by omega) (by omega)]
      rfl
  refine go_aload_n (q := 0) (i := 0) rfl rfl dX6_init_0 ?_
  refine go_obj (wg1 219 rfl rfl) okObj ⟨nle rfl, nle rfl⟩ dX6_init_1 ?_
  refine go_aload_n (q := 0) (i := 0) rfl rfl dX6_init_4 ?_
  refine go_bipush (v := nI 30) (by decide) dX6_init_5 ?_
  refine go_nwq (N := 30) (Zr.up (hz.le (by omega)) (by omega)) (wg1 220 rfl rfl) (hs 1 (by decide)) (by decide) ⟨nle rfl, nle rfl⟩ dX6_init_7 ?_
  refine go_putE lf6_11 rfl fo6_11 (hs 0 (by decide)) (by omega) dX6_init_10 ?_
  refine go_iconst (v := nI 0) (by decide) dX6_init_13 ?_
  refine go_istore_n (q := 1) (i := 1) rfl dX6_init_14 (nle rfl) (nle rfl) ?_
  refine go_M ?_ (key 0 (Nat.zero_le _))
  show (a + 2, I, J, va_up R a (TR6 a)) = (a + 2, I, J, va_up (va_up R (a + 1) (rgI (a + 2) 0)) a (TR6 a))
  rw [rgI_0, up_id (hz (a + 1) (Nat.le_refl _)).2.2]
