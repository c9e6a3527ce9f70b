/-- what joined answers -/
def jo (s x y : Int32) : Int32 := if s = nI 2 then x + y else if s = nI 3 then x - y else if s = nI 4 then x * y else if y = 0 then nI 0 else x / y
/-- a law's code, run: fuel, place, how many wait, what waits -/
def anF (code vars : Nat → Int32) : Nat → Nat → Nat → (Nat → Int32) → Int32 × (Nat → Int32)
  | 0, _, _, st => (nI 0, st)
  | f + 1, a, t, st =>
    if 420 ≤ a ∨ 24 ≤ t then (nI 0, st)
    else if code a >>> (nI 16 &&& 31) = 0 then anF code vars f (a + 1) (t + 1) (upd st t (nI ((code a).toBitVec.toNat % 2 ^ 16)))
    else if code a >>> (nI 16 &&& 31) = nI 1 then anF code vars f (a + 1) (t + 1) (upd st t (if (code a).toBitVec.toNat % 2 ^ 16 < 9 then vars ((code a).toBitVec.toNat % 2 ^ 16) else nI 0))
    else if code a >>> (nI 16 &&& 31) = nI 7 ∨ t < 2 then (if t = 1 then st 0 else nI 0, st)
    else if code a >>> (nI 16 &&& 31) = nI 6 then anF code vars f (if st (t - 2) < st (t - 2 + 1) then a + 1 else (code a).toBitVec.toNat % 2 ^ 16) (t - 2) st
    else if code a >>> (nI 16 &&& 31) = nI 5 ∧ st (t - 1) = 0 then (nI 0, st)
    else anF code vars f (a + 1) (t - 1) (upd st (t - 1 - 1) (jo (code a >>> (nI 16 &&& 31)) (st (t - 1 - 1)) (st (t - 1))))
theorem anF_s {code vars : Nat → Int32} {f a t : Nat} {st : Nat → Int32} : anF code vars (f + 1) a t st = 
    if 420 ≤ a ∨ 24 ≤ t then (nI 0, st)
    else if code a >>> (nI 16 &&& 31) = 0 then anF code vars f (a + 1) (t + 1) (upd st t (nI ((code a).toBitVec.toNat % 2 ^ 16)))
    else if code a >>> (nI 16 &&& 31) = nI 1 then anF code vars f (a + 1) (t + 1) (upd st t (if (code a).toBitVec.toNat % 2 ^ 16 < 9 then vars ((code a).toBitVec.toNat % 2 ^ 16) else nI 0))
    else if code a >>> (nI 16 &&& 31) = nI 7 ∨ t < 2 then (if t = 1 then st 0 else nI 0, st)
    else if code a >>> (nI 16 &&& 31) = nI 6 then anF code vars f (if st (t - 2) < st (t - 2 + 1) then a + 1 else (code a).toBitVec.toNat % 2 ^ 16) (t - 2) st
    else if code a >>> (nI 16 &&& 31) = nI 5 ∧ st (t - 1) = 0 then (nI 0, st)
    else anF code vars f (a + 1) (t - 1) (upd st (t - 1 - 1) (jo (code a >>> (nI 16 &&& 31)) (st (t - 1 - 1)) (st (t - 1)))) := rfl
set_option maxRecDepth 100000 in
set_option maxHeartbeats 4000000 in
theorem ev_joined {m : Me} {s x y : Int32} : Ev mX5_joined [.int s, .int x, .int y] m (fun r m' => r = some (.int (jo s x y)) ∧ m' = m) := by
  refine ⟨plmX5_joined, nle rfl, ?_⟩
  refine go_iload_n (q := 0) (i := 0) rfl rfl dX5_joined_0 ?_
  rcases (show s = nI 2 ∨ s = nI 3 ∨ s = nI 4 ∨ (s.toInt < 2 ∨ 4 < s.toInt) by
    have e2 : (nI 2).toInt = 2 := rfl
    have e3 : (nI 3).toInt = 3 := rfl
    have e4 : (nI 4).toInt = 4 := rfl
    by_cases q : s.toInt < 2
    · exact Or.inr (Or.inr (Or.inr (Or.inl q)))
    · by_cases q2 : 4 < s.toInt
      · exact Or.inr (Or.inr (Or.inr (Or.inr q2)))
      · rcases (show s.toInt = 2 ∨ s.toInt = 3 ∨ s.toInt = 4 by omega) with h | h | h
        · exact Or.inl (Int32.toInt_inj.mp (h.trans e2.symm))
        · exact Or.inr (Or.inl (Int32.toInt_inj.mp (h.trans e3.symm)))
        · exact Or.inr (Or.inr (Or.inl (Int32.toInt_inj.mp (h.trans e4.symm))))) with h | h | h | h
  · subst h
    refine go_tswIn (off := 27) (tgt := 28) dX5_joined_1 (by decide) (by decide) rfl (by decide) ?_
    refine go_iload_n (q := 1) (i := 1) rfl rfl dX5_joined_28 ?_
    refine go_iload_n (q := 2) (i := 2) rfl rfl dX5_joined_29 ?_
    refine go_iadd dX5_joined_30 ?_
    refine go_iret rfl ⟨Nat.zero_le _, Nat.zero_le _⟩ dX5_joined_31 ?_
    refine ⟨?_, rfl⟩
    unfold jo
    repeat (first | rw [if_pos rfl] | rw [if_neg (by decide)])
  · subst h
    refine go_tswIn (off := 31) (tgt := 32) dX5_joined_1 (by decide) (by decide) rfl (by decide) ?_
    refine go_iload_n (q := 1) (i := 1) rfl rfl dX5_joined_32 ?_
    refine go_iload_n (q := 2) (i := 2) rfl rfl dX5_joined_33 ?_
    refine go_isub dX5_joined_34 ?_
    refine go_iret rfl ⟨Nat.zero_le _, Nat.zero_le _⟩ dX5_joined_35 ?_
    refine ⟨?_, rfl⟩
    unfold jo
    repeat (first | rw [if_pos rfl] | rw [if_neg (by decide)])
  · subst h
    refine go_tswIn (off := 35) (tgt := 36) dX5_joined_1 (by decide) (by decide) rfl (by decide) ?_
    refine go_iload_n (q := 1) (i := 1) rfl rfl dX5_joined_36 ?_
    refine go_iload_n (q := 2) (i := 2) rfl rfl dX5_joined_37 ?_
    refine go_imul dX5_joined_38 ?_
    refine go_iret rfl ⟨Nat.zero_le _, Nat.zero_le _⟩ dX5_joined_39 ?_
    refine ⟨?_, rfl⟩
    unfold jo
    repeat (first | rw [if_pos rfl] | rw [if_neg (by decide)])
  · refine go_tswOut (tgt := 40) dX5_joined_1 h (by decide) ?_
    refine go_iload_n (q := 2) (i := 2) rfl rfl dX5_joined_40 ?_
    refine go_if_ne (tgt := 48) dX5_joined_41 (by decide) (fun h41 => ?_) (fun h41 => ?_)
    · skip
      refine go_iload_n (q := 1) (i := 1) rfl rfl dX5_joined_48 ?_
      refine go_iload_n (q := 2) (i := 2) rfl rfl dX5_joined_49 ?_
      refine go_idiv h41 dX5_joined_50 ?_
      refine go_iret rfl ⟨Nat.zero_le _, Nat.zero_le _⟩ dX5_joined_51 ?_
      refine ⟨?_, rfl⟩
      unfold jo
      rw [if_neg (fun q => by subst q; rcases h with h | h <;> exact absurd h (by decide)), if_neg (fun q => by subst q; rcases h with h | h <;> exact absurd h (by decide)), if_neg (fun q => by subst q; rcases h with h | h <;> exact absurd h (by decide))]
      first | rw [if_neg (by assumption)] | rw [if_pos (by assumption)]
    · skip
      refine go_iconst (v := nI 0) (by decide) dX5_joined_44 ?_
      refine go_goto (tgt := 51) dX5_joined_45 (by decide) ?_
      refine go_iret rfl ⟨Nat.zero_le _, Nat.zero_le _⟩ dX5_joined_51 ?_
      refine ⟨?_, rfl⟩
      unfold jo
      rw [if_neg (fun q => by subst q; rcases h with h | h <;> exact absurd h (by decide)), if_neg (fun q => by subst q; rcases h with h | h <;> exact absurd h (by decide)), if_neg (fun q => by subst q; rcases h with h | h <;> exact absurd h (by decide))]
      first | rw [if_neg (by assumption)] | rw [if_pos (by assumption)]
/-- the variables at an hour's begin -/
def cvS (h : Int32) : Nat → Int32 := fun k => if k = 1 then h - h / nI 24 * nI 24 else if k = 2 then h / nI 24 else nI 0
theorem upd_cp {v h : Int32} {C : Nat → Int32} : upd (upd (cp 9 (fun _ => nI 0) C) 1 v) 2 h = cp 9 (fun k => if k = 1 then v else if k = 2 then h else nI 0) C := by
  funext k
  unfold upd cp
  by_cases h2 : k = 2
  · subst h2; simp
  · rw [if_neg h2]
    by_cases h1 : k = 1
    · subst h1; simp
    · rw [if_neg h1]
      simp only [h1, h2, if_false]
set_option maxRecDepth 100000 in
set_option maxHeartbeats 4000000 in
/-- clearVars -/
theorem ev_clearVars {m : Me} {la : Nat} {h : Int32} (hl : Wf5 m.1 (gR m) la) : Ev mX5_clearVars [.ref la, .int h] m (fun r m' => r = none ∧ m' = sI m (la + 3) (cp 9 (cvS h) (gI m (la + 3)))) := by
  refine ⟨plmX5_clearVars, nle rfl, ?_⟩
  have key : ∀ i, i ≤ 9 → Go mX5_clearVars (fun r m' => r = none ∧ m' = sI m (la + 3) (cp 9 (cvS h) (gI m (la + 3)))) 2 [some (.ref la), some (.int h), some (.int (nI i))] [] (sI m (la + 3) (cp i (fun _ => nI 0) (gI m (la + 3)))) 0 0 := by
    refine loop_up 9 ?_ ?_
    · skip
      refine go_iload_n (q := 2) (i := 2) rfl rfl dX5_clearVars_2 ?_
      refine go_bipush (v := nI 9) (by decide) dX5_clearVars_3 ?_
      refine gn_ge (by omega) (by omega) (tgt := 21) dX5_clearVars_5 (by decide) (fun h5 => ?_) (fun h5 => by exfalso; omega)
      refine go_aload_n (q := 0) (i := 0) rfl rfl dX5_clearVars_21 ?_
      refine go_getR lf5_18 rfl hl.o hl.r2 dX5_clearVars_22 ?_
      refine go_iconst (v := nI 1) (by decide) dX5_clearVars_25 ?_
      refine go_iload_n (q := 1) (i := 1) rfl rfl dX5_clearVars_26 ?_
      refine go_bipush (v := nI 24) (by decide) dX5_clearVars_27 ?_
      refine go_irem (by decide) dX5_clearVars_29 ?_
      refine go_iast (j := 1) hl.i2 (by omega) (by first | decide | omega) rfl dX5_clearVars_30 ?_
      rw [sI_sI, gI_s]
      refine go_aload_n (q := 0) (i := 0) rfl rfl dX5_clearVars_31 ?_
      refine go_getR lf5_18 rfl hl.o hl.r2 dX5_clearVars_32 ?_
      refine go_iconst (v := nI 2) (by decide) dX5_clearVars_35 ?_
      refine go_iload_n (q := 1) (i := 1) rfl rfl dX5_clearVars_36 ?_
      refine go_bipush (v := nI 24) (by decide) dX5_clearVars_37 ?_
      refine go_idiv (by decide) dX5_clearVars_39 ?_
      refine go_iast (j := 2) hl.i2 (by omega) (by first | decide | omega) rfl dX5_clearVars_40 ?_
      rw [sI_sI, gI_s, upd_cp]
      refine go_vret rfl ⟨Nat.zero_le _, Nat.zero_le _⟩ dX5_clearVars_41 ?_
      exact ⟨rfl, rfl⟩
    · intro i hi ih
      refine go_iload_n (q := 2) (i := 2) rfl rfl dX5_clearVars_2 ?_
      refine go_bipush (v := nI 9) (by decide) dX5_clearVars_3 ?_
      refine gn_ge (by omega) (by omega) (tgt := 21) dX5_clearVars_5 (by decide) (fun h5 => by exfalso; omega) (fun h5 => ?_)
      refine go_aload_n (q := 0) (i := 0) rfl rfl dX5_clearVars_8 ?_
      refine go_getR lf5_18 rfl hl.o hl.r2 dX5_clearVars_9 ?_
      refine go_iload_n (q := 2) (i := 2) rfl rfl dX5_clearVars_12 ?_
      refine go_iconst (v := nI 0) (by decide) dX5_clearVars_13 ?_
      refine go_iast (j := i) hl.i2 (by omega) (by first | decide | omega) rfl dX5_clearVars_14 ?_
      rw [sI_sI, gI_s, show upd (cp i (fun _ => nI 0) (gI m (la + 3))) i (nI 0) = cp (i + 1) (fun _ => nI 0) (gI m (la + 3)) from cp_s (A := fun _ => nI 0)]
      refine gn_inc (i := 2) (a := i) (q := 1) rfl dX5_clearVars_15 (nle rfl) rfl ?_
      refine go_goto (tgt := 2) dX5_clearVars_18 (by decide) ?_
      exact ih
  have k0 := key 0 (Nat.zero_le _)
  rw [cp_0, sI_self] at k0
  refine go_iconst (v := nI 0) (by decide) dX5_clearVars_0 ?_
  refine go_istore_n (q := 2) (i := 2) rfl dX5_clearVars_1 (nle rfl) (nle rfl) ?_
  exact k0
set_option maxRecDepth 100000 in
set_option maxHeartbeats 8000000 in
/-- answer: law k's code is run from its start -/
theorem ev_answer {m : Me} {la s : Nat} {k : Nat} (hl : Wf5 m.1 (gR m) la) (hk : k < 4) (hs : gI m (la + 2) k = nI s) (hs2 : s < 2 ^ 30) : Ev mX5_answer [.ref la, .int (nI k)] m (fun r m' => r = some (.int (anF (gI m (la + 1)) (gI m (la + 3)) 420 s 0 (gI m (la + 4))).1) ∧ m' = sI m (la + 4) (anF (gI m (la + 1)) (gI m (la + 3)) 420 s 0 (gI m (la + 4))).2) := by
  refine ⟨plmX5_answer, nle rfl, ?_⟩
  generalize hres : anF (gI m (la + 1)) (gI m (la + 3)) 420 s 0 (gI m (la + 4)) = res
  have key : ∀ i, i ≤ 420 → ∀ (a t : Nat) (st : Nat → Int32) (x5 x6 : Option Value), a < 2 ^ 30 + i → t ≤ 24 → anF (gI m (la + 1)) (gI m (la + 3)) (420 - i) a t st = res → Go mX5_answer (fun r m' => r = some (.int res.1) ∧ m' = sI m (la + 4) res.2) 25 [some (.ref la), some (.int (nI k)), some (.int (nI a)), some (.int (nI t)), some (.int (nI i)), x5, x6] [] (sI m (la + 4) st) 0 0 := by
    refine loop_up 420 ?_ ?_
    · intro a t st x5 x6 ha ht he
      rw [show 420 - 420 = 0 from rfl, show anF (gI m (la + 1)) (gI m (la + 3)) 0 a t st = (nI 0, st) from rfl] at he
      refine go_iload (i := 4) rfl dX5_answer_25 ?_
      refine go_sipush (v := nI 420) (by decide) dX5_answer_27 ?_
      refine gn_ge (by omega) (by omega) (tgt := 256) dX5_answer_30 (by decide) (fun h30 => ?_) (fun h30 => by exfalso; omega)
      refine go_iconst (v := nI 0) (by decide) dX5_answer_256 ?_
      refine go_iret rfl ⟨Nat.zero_le _, Nat.zero_le _⟩ dX5_answer_257 ?_
      rw [← he]
      exact ⟨rfl, rfl⟩
    · intro i hi ih a t st x5 x6 ha ht he
      rw [show (420 : Nat) - i = (420 - (i + 1)) + 1 by omega, anF_s] at he
      refine go_iload (i := 4) rfl dX5_answer_25 ?_
      refine go_sipush (v := nI 420) (by decide) dX5_answer_27 ?_
      refine gn_ge (by omega) (by omega) (tgt := 256) dX5_answer_30 (by decide) (fun h30 => by exfalso; omega) (fun h30 => ?_)
      refine go_iload_n (q := 2) (i := 2) rfl rfl dX5_answer_33 ?_
      refine gz_lt (by omega) (tgt := 54) dX5_answer_34 (by decide) (fun h34 => ?_) (fun h34 => ?_)
      · skip
        refine go_iconst (v := nI 0) (by decide) dX5_answer_54 ?_
        refine go_iret rfl ⟨Nat.zero_le _, Nat.zero_le _⟩ dX5_answer_55 ?_
        rw [if_pos (by omega)] at he
        rw [← he]
        exact ⟨rfl, rfl⟩
      · skip
        refine go_iload_n (q := 2) (i := 2) rfl rfl dX5_answer_37 ?_
        refine go_sipush (v := nI 420) (by decide) dX5_answer_38 ?_
        refine gn_ge (by omega) (by omega) (tgt := 54) dX5_answer_41 (by decide) (fun h41 => ?_) (fun h41 => ?_)
        · skip
          refine go_iconst (v := nI 0) (by decide) dX5_answer_54 ?_
          refine go_iret rfl ⟨Nat.zero_le _, Nat.zero_le _⟩ dX5_answer_55 ?_
          rw [if_pos (by omega)] at he
          rw [← he]
          exact ⟨rfl, rfl⟩
        · skip
          refine go_iload_n (q := 3) (i := 3) rfl rfl dX5_answer_44 ?_
          refine gz_lt (by omega) (tgt := 54) dX5_answer_45 (by decide) (fun h45 => ?_) (fun h45 => ?_)
          · skip
            refine go_iconst (v := nI 0) (by decide) dX5_answer_54 ?_
            refine go_iret rfl ⟨Nat.zero_le _, Nat.zero_le _⟩ dX5_answer_55 ?_
            rw [if_pos (by omega)] at he
            rw [← he]
            exact ⟨rfl, rfl⟩
          · skip
            refine go_iload_n (q := 3) (i := 3) rfl rfl dX5_answer_48 ?_
            refine go_bipush (v := nI 24) (by decide) dX5_answer_49 ?_
            refine gn_lt (by omega) (by omega) (tgt := 56) dX5_answer_51 (by decide) (fun h51 => ?_) (fun h51 => ?_)
            · skip
              refine go_aload_n (q := 0) (i := 0) rfl rfl dX5_answer_56 ?_
              refine go_getR lf5_9 rfl hl.o hl.r0 dX5_answer_57 ?_
              refine go_iload_n (q := 2) (i := 2) rfl rfl dX5_answer_60 ?_
              refine go_iald (j := a) hl.i0 (by omega) (by first | decide | omega) rfl dX5_answer_61 ?_
              rw [gI_n (show la + 1 ≠ la + 4 by omega)]
              refine go_bipush (v := nI 16) (by decide) dX5_answer_62 ?_
              refine go_ishr dX5_answer_64 ?_
              refine go_istore (i := 5) dX5_answer_65 (nle rfl) (nle rfl) ?_
              refine go_aload_n (q := 0) (i := 0) rfl rfl dX5_answer_67 ?_
              refine go_getR lf5_9 rfl hl.o hl.r0 dX5_answer_68 ?_
              refine go_iload_n (q := 2) (i := 2) rfl rfl dX5_answer_71 ?_
              refine go_iald (j := a) hl.i0 (by omega) (by first | decide | omega) rfl dX5_answer_72 ?_
              rw [gI_n (show la + 1 ≠ la + 4 by omega)]
              refine go_ldc (wg4 59 rfl rfl) dX5_answer_73 ?_
              refine go_iand dX5_answer_75 ?_
              rw [pk_and (gI m (la + 1) a) (m := 65535) 16 (by decide)]
              generalize ho : BitVec.toNat _ % 2 ^ 16 = o at he ⊢
              have ho2 : o < 65536 := by rw [← ho]; exact Nat.mod_lt _ (by decide)
              refine go_istore (i := 6) dX5_answer_76 (nle rfl) (nle rfl) ?_
              refine gn_inc (i := 2) (a := a) (q := 1) rfl dX5_answer_78 (nle rfl) rfl ?_
              refine go_iload (i := 5) rfl dX5_answer_81 ?_
              refine go_if_ne (tgt := 100) dX5_answer_83 (by decide) (fun h83 => ?_) (fun h83 => ?_)
              · skip
                refine go_iload (i := 5) rfl dX5_answer_100 ?_
                refine go_iconst (v := nI 1) (by decide) dX5_answer_102 ?_
                refine go_icmp_ne (tgt := 136) dX5_answer_103 (by decide) (fun h103 => ?_) (fun h103 => ?_)
                · skip
                  refine go_iload (i := 5) rfl dX5_answer_136 ?_
                  refine go_bipush (v := nI 7) (by decide) dX5_answer_138 ?_
                  refine go_icmp_eq (tgt := 148) dX5_answer_140 (by decide) (fun h140 => ?_) (fun h140 => ?_)
                  · skip
                    refine go_iload_n (q := 3) (i := 3) rfl rfl dX5_answer_148 ?_
                    refine go_iconst (v := nI 1) (by decide) dX5_answer_149 ?_
                    refine gn_ne (by omega) (by omega) (tgt := 162) dX5_answer_150 (by decide) (fun h150 => ?_) (fun h150 => ?_)
                    · skip
                      refine go_iconst (v := nI 0) (by decide) dX5_answer_162 ?_
                      refine go_iret rfl ⟨Nat.zero_le _, Nat.zero_le _⟩ dX5_answer_163 ?_
                      rw [if_neg (show ¬ (420 ≤ a ∨ 24 ≤ t) by omega)] at he
                      rw [if_neg h83] at he
                      rw [if_neg h103] at he
                      rw [if_pos (Or.inl h140)] at he
                      rw [if_neg h150] at he
                      rw [← he]
                      exact ⟨rfl, rfl⟩
                    · skip
                      refine go_aload_n (q := 0) (i := 0) rfl rfl dX5_answer_153 ?_
                      refine go_getR lf5_21 rfl hl.o hl.r3 dX5_answer_154 ?_
                      refine go_iconst (v := nI 0) (by decide) dX5_answer_157 ?_
                      refine go_iald (j := 0) hl.i3 (by omega) (by first | decide | omega) rfl dX5_answer_158 ?_
                      rw [gI_s]
                      refine go_goto (tgt := 163) dX5_answer_159 (by decide) ?_
                      refine go_iret rfl ⟨Nat.zero_le _, Nat.zero_le _⟩ dX5_answer_163 ?_
                      rw [if_neg (show ¬ (420 ≤ a ∨ 24 ≤ t) by omega)] at he
                      rw [if_neg h83] at he
                      rw [if_neg h103] at he
                      rw [if_pos (Or.inl h140)] at he
                      rw [if_pos h150] at he
                      rw [← he]
                      exact ⟨rfl, rfl⟩
                  · skip
                    refine go_iload_n (q := 3) (i := 3) rfl rfl dX5_answer_143 ?_
                    refine go_iconst (v := nI 2) (by decide) dX5_answer_144 ?_
                    refine gn_ge (by omega) (by omega) (tgt := 164) dX5_answer_145 (by decide) (fun h145 => ?_) (fun h145 => ?_)
                    · skip
                      refine go_iload (i := 5) rfl dX5_answer_164 ?_
                      refine go_bipush (v := nI 6) (by decide) dX5_answer_166 ?_
                      refine go_icmp_ne (tgt := 201) dX5_answer_168 (by decide) (fun h168 => ?_) (fun h168 => ?_)
                      · skip
                        refine go_iload (i := 5) rfl dX5_answer_201 ?_
                        refine go_iconst (v := nI 5) (by decide) dX5_answer_203 ?_
                        refine go_icmp_ne (tgt := 220) dX5_answer_204 (by decide) (fun h204 => ?_) (fun h204 => ?_)
                        · skip
                          refine go_iinc (i := 3) (x := nI t) dX5_answer_220 (nle rfl) rfl ?_
                          rw [show nI t + Int32.ofInt (-1) = nI (t - 1) from by rw [show Int32.ofInt (-1) = -(nI 1) from rfl, ← Int32.sub_eq_add_neg, pk_sub (by omega)]]
                          refine go_aload_n (q := 0) (i := 0) rfl rfl dX5_answer_223 ?_
                          refine go_getR lf5_21 rfl hl.o hl.r3 dX5_answer_224 ?_
                          refine go_iload_n (q := 3) (i := 3) rfl rfl dX5_answer_227 ?_
                          refine go_iconst (v := nI 1) (by decide) dX5_answer_228 ?_
                          refine gn_sub (by omega) dX5_answer_229 ?_
                          refine go_iload (i := 5) rfl dX5_answer_230 ?_
                          refine go_aload_n (q := 0) (i := 0) rfl rfl dX5_answer_232 ?_
                          refine go_getR lf5_21 rfl hl.o hl.r3 dX5_answer_233 ?_
                          refine go_iload_n (q := 3) (i := 3) rfl rfl dX5_answer_236 ?_
                          refine go_iconst (v := nI 1) (by decide) dX5_answer_237 ?_
                          refine gn_sub (by omega) dX5_answer_238 ?_
                          refine go_iald (j := ((t - 1) - 1)) hl.i3 (by omega) (by first | decide | omega) rfl dX5_answer_239 ?_
                          rw [gI_s]
                          refine go_aload_n (q := 0) (i := 0) rfl rfl dX5_answer_240 ?_
                          refine go_getR lf5_21 rfl hl.o hl.r3 dX5_answer_241 ?_
                          refine go_iload_n (q := 3) (i := 3) rfl rfl dX5_answer_244 ?_
                          refine go_iald (j := (t - 1)) hl.i3 (by omega) (by first | decide | omega) rfl dX5_answer_245 ?_
                          rw [gI_s]
                          refine go_callS okmX5_joined lmX5_75 ⟨nle rfl, nle rfl⟩ (ev_joined) npmX5_joined rfl (nle rfl) ⟨nle rfl, nle rfl⟩ dX5_answer_246 ?_
                          rintro _ _ ⟨rfl, rfl⟩
                          refine go_c1 ?_
                          refine go_iast (j := ((t - 1) - 1)) hl.i3 (by omega) (by first | decide | omega) rfl dX5_answer_249 ?_
                          rw [sI_sI, gI_s]
                          refine gn_inc (i := 4) (a := i) (q := 1) rfl dX5_answer_250 (nle rfl) rfl ?_
                          refine go_goto (tgt := 25) dX5_answer_253 (by decide) ?_
                          rw [if_neg (show ¬ (420 ≤ a ∨ 24 ≤ t) by omega)] at he
                          rw [if_neg h83] at he
                          rw [if_neg h103] at he
                          rw [if_neg (show ¬ (gI m (la + 1) a >>> (nI 16 &&& 31) = nI 7 ∨ t < 2) from fun q => q.elim h140 (by omega))] at he
                          rw [if_neg h168] at he
                          rw [if_neg (fun q => h204 q.1)] at he
                          exact ih _ _ _ _ _ (by omega) (by omega) he
                        · skip
                          refine go_aload_n (q := 0) (i := 0) rfl rfl dX5_answer_207 ?_
                          refine go_getR lf5_21 rfl hl.o hl.r3 dX5_answer_208 ?_
                          refine go_iload_n (q := 3) (i := 3) rfl rfl dX5_answer_211 ?_
                          refine go_iconst (v := nI 1) (by decide) dX5_answer_212 ?_
                          refine gn_sub (by omega) dX5_answer_213 ?_
                          refine go_iald (j := (t - 1)) hl.i3 (by omega) (by first | decide | omega) rfl dX5_answer_214 ?_
                          rw [gI_s]
                          refine go_if_ne (tgt := 220) dX5_answer_215 (by decide) (fun h215 => ?_) (fun h215 => ?_)
                          · skip
                            refine go_iinc (i := 3) (x := nI t) dX5_answer_220 (nle rfl) rfl ?_
                            rw [show nI t + Int32.ofInt (-1) = nI (t - 1) from by rw [show Int32.ofInt (-1) = -(nI 1) from rfl, ← Int32.sub_eq_add_neg, pk_sub (by omega)]]
                            refine go_aload_n (q := 0) (i := 0) rfl rfl dX5_answer_223 ?_
                            refine go_getR lf5_21 rfl hl.o hl.r3 dX5_answer_224 ?_
                            refine go_iload_n (q := 3) (i := 3) rfl rfl dX5_answer_227 ?_
                            refine go_iconst (v := nI 1) (by decide) dX5_answer_228 ?_
                            refine gn_sub (by omega) dX5_answer_229 ?_
                            refine go_iload (i := 5) rfl dX5_answer_230 ?_
                            refine go_aload_n (q := 0) (i := 0) rfl rfl dX5_answer_232 ?_
                            refine go_getR lf5_21 rfl hl.o hl.r3 dX5_answer_233 ?_
                            refine go_iload_n (q := 3) (i := 3) rfl rfl dX5_answer_236 ?_
                            refine go_iconst (v := nI 1) (by decide) dX5_answer_237 ?_
                            refine gn_sub (by omega) dX5_answer_238 ?_
                            refine go_iald (j := ((t - 1) - 1)) hl.i3 (by omega) (by first | decide | omega) rfl dX5_answer_239 ?_
                            rw [gI_s]
                            refine go_aload_n (q := 0) (i := 0) rfl rfl dX5_answer_240 ?_
                            refine go_getR lf5_21 rfl hl.o hl.r3 dX5_answer_241 ?_
                            refine go_iload_n (q := 3) (i := 3) rfl rfl dX5_answer_244 ?_
                            refine go_iald (j := (t - 1)) hl.i3 (by omega) (by first | decide | omega) rfl dX5_answer_245 ?_
                            rw [gI_s]
                            refine go_callS okmX5_joined lmX5_75 ⟨nle rfl, nle rfl⟩ (ev_joined) npmX5_joined rfl (nle rfl) ⟨nle rfl, nle rfl⟩ dX5_answer_246 ?_
                            rintro _ _ ⟨rfl, rfl⟩
                            refine go_c1 ?_
                            refine go_iast (j := ((t - 1) - 1)) hl.i3 (by omega) (by first | decide | omega) rfl dX5_answer_249 ?_
                            rw [sI_sI, gI_s]
                            refine gn_inc (i := 4) (a := i) (q := 1) rfl dX5_answer_250 (nle rfl) rfl ?_
                            refine go_goto (tgt := 25) dX5_answer_253 (by decide) ?_
                            rw [if_neg (show ¬ (420 ≤ a ∨ 24 ≤ t) by omega)] at he
                            rw [if_neg h83] at he
                            rw [if_neg h103] at he
                            rw [if_neg (show ¬ (gI m (la + 1) a >>> (nI 16 &&& 31) = nI 7 ∨ t < 2) from fun q => q.elim h140 (by omega))] at he
                            rw [if_neg h168] at he
                            rw [if_neg (fun q => h215 q.2)] at he
                            exact ih _ _ _ _ _ (by omega) (by omega) he
                          · skip
                            refine go_iconst (v := nI 0) (by decide) dX5_answer_218 ?_
                            refine go_iret rfl ⟨Nat.zero_le _, Nat.zero_le _⟩ dX5_answer_219 ?_
                            rw [if_neg (show ¬ (420 ≤ a ∨ 24 ≤ t) by omega)] at he
                            rw [if_neg h83] at he
                            rw [if_neg h103] at he
                            rw [if_neg (show ¬ (gI m (la + 1) a >>> (nI 16 &&& 31) = nI 7 ∨ t < 2) from fun q => q.elim h140 (by omega))] at he
                            rw [if_neg h168] at he
                            rw [if_pos ⟨h204, h215⟩] at he
                            rw [← he]
                            exact ⟨rfl, rfl⟩
                      · skip
                        refine go_iinc (i := 3) (x := nI t) dX5_answer_171 (nle rfl) rfl ?_
                        rw [show nI t + Int32.ofInt (-2) = nI (t - 2) from by rw [show Int32.ofInt (-2) = -(nI 2) from rfl, ← Int32.sub_eq_add_neg, pk_sub (by omega)]]
                        refine go_aload_n (q := 0) (i := 0) rfl rfl dX5_answer_174 ?_
                        refine go_getR lf5_21 rfl hl.o hl.r3 dX5_answer_175 ?_
                        refine go_iload_n (q := 3) (i := 3) rfl rfl dX5_answer_178 ?_
                        refine go_iald (j := (t - 2)) hl.i3 (by omega) (by first | decide | omega) rfl dX5_answer_179 ?_
                        rw [gI_s]
                        refine go_aload_n (q := 0) (i := 0) rfl rfl dX5_answer_180 ?_
                        refine go_getR lf5_21 rfl hl.o hl.r3 dX5_answer_181 ?_
                        refine go_iload_n (q := 3) (i := 3) rfl rfl dX5_answer_184 ?_
                        refine go_iconst (v := nI 1) (by decide) dX5_answer_185 ?_
                        refine gn_add dX5_answer_186 ?_
                        refine go_iald (j := ((t - 2) + 1)) hl.i3 (by omega) (by first | decide | omega) rfl dX5_answer_187 ?_
                        rw [gI_s]
                        refine go_icmp_ge (tgt := 195) dX5_answer_188 (by decide) (fun h188 => ?_) (fun h188 => ?_)
                        · skip
                          refine go_iload (i := 6) rfl dX5_answer_195 ?_
                          refine go_istore_n (q := 2) (i := 2) rfl dX5_answer_197 (nle rfl) (nle rfl) ?_
                          refine go_goto (tgt := 250) dX5_answer_198 (by decide) ?_
                          refine gn_inc (i := 4) (a := i) (q := 1) rfl dX5_answer_250 (nle rfl) rfl ?_
                          refine go_goto (tgt := 25) dX5_answer_253 (by decide) ?_
                          rw [if_neg (show ¬ (420 ≤ a ∨ 24 ≤ t) by omega)] at he
                          rw [if_neg h83] at he
                          rw [if_neg h103] at he
                          rw [if_neg (show ¬ (gI m (la + 1) a >>> (nI 16 &&& 31) = nI 7 ∨ t < 2) from fun q => q.elim h140 (by omega))] at he
                          rw [if_pos h168] at he
                          rw [if_neg (Int32.not_lt.mpr h188)] at he
                          exact ih _ _ _ _ _ (by omega) (by omega) he
                        · skip
                          refine go_iload_n (q := 2) (i := 2) rfl rfl dX5_answer_191 ?_
                          refine go_goto (tgt := 197) dX5_answer_192 (by decide) ?_
                          refine go_istore_n (q := 2) (i := 2) rfl dX5_answer_197 (nle rfl) (nle rfl) ?_
                          refine go_goto (tgt := 250) dX5_answer_198 (by decide) ?_
                          refine gn_inc (i := 4) (a := i) (q := 1) rfl dX5_answer_250 (nle rfl) rfl ?_
                          refine go_goto (tgt := 25) dX5_answer_253 (by decide) ?_
                          rw [if_neg (show ¬ (420 ≤ a ∨ 24 ≤ t) by omega)] at he
                          rw [if_neg h83] at he
                          rw [if_neg h103] at he
                          rw [if_neg (show ¬ (gI m (la + 1) a >>> (nI 16 &&& 31) = nI 7 ∨ t < 2) from fun q => q.elim h140 (by omega))] at he
                          rw [if_pos h168] at he
                          rw [if_pos (Int32.not_le.mp h188)] at he
                          exact ih _ _ _ _ _ (by omega) (by omega) he
                    · skip
                      refine go_iload_n (q := 3) (i := 3) rfl rfl dX5_answer_148 ?_
                      refine go_iconst (v := nI 1) (by decide) dX5_answer_149 ?_
                      refine gn_ne (by omega) (by omega) (tgt := 162) dX5_answer_150 (by decide) (fun h150 => ?_) (fun h150 => ?_)
                      · skip
                        refine go_iconst (v := nI 0) (by decide) dX5_answer_162 ?_
                        refine go_iret rfl ⟨Nat.zero_le _, Nat.zero_le _⟩ dX5_answer_163 ?_
                        rw [if_neg (show ¬ (420 ≤ a ∨ 24 ≤ t) by omega)] at he
                        rw [if_neg h83] at he
                        rw [if_neg h103] at he
                        rw [if_pos (Or.inr h145)] at he
                        rw [if_neg h150] at he
                        rw [← he]
                        exact ⟨rfl, rfl⟩
                      · skip
                        refine go_aload_n (q := 0) (i := 0) rfl rfl dX5_answer_153 ?_
                        refine go_getR lf5_21 rfl hl.o hl.r3 dX5_answer_154 ?_
                        refine go_iconst (v := nI 0) (by decide) dX5_answer_157 ?_
                        refine go_iald (j := 0) hl.i3 (by omega) (by first | decide | omega) rfl dX5_answer_158 ?_
                        rw [gI_s]
                        refine go_goto (tgt := 163) dX5_answer_159 (by decide) ?_
                        refine go_iret rfl ⟨Nat.zero_le _, Nat.zero_le _⟩ dX5_answer_163 ?_
                        rw [if_neg (show ¬ (420 ≤ a ∨ 24 ≤ t) by omega)] at he
                        rw [if_neg h83] at he
                        rw [if_neg h103] at he
                        rw [if_pos (Or.inr h145)] at he
                        rw [if_pos h150] at he
                        rw [← he]
                        exact ⟨rfl, rfl⟩
                · skip
                  refine go_aload_n (q := 0) (i := 0) rfl rfl dX5_answer_106 ?_
                  refine go_getR lf5_21 rfl hl.o hl.r3 dX5_answer_107 ?_
                  refine go_iload_n (q := 3) (i := 3) rfl rfl dX5_answer_110 ?_
                  refine go_iload (i := 6) rfl dX5_answer_111 ?_
                  refine go_bipush (v := nI 9) (by decide) dX5_answer_113 ?_
                  refine gn_ge (by omega) (by omega) (tgt := 128) dX5_answer_115 (by decide) (fun h115 => ?_) (fun h115 => ?_)
                  · skip
                    refine go_iconst (v := nI 0) (by decide) dX5_answer_128 ?_
                    refine go_iast (j := t) hl.i3 (by omega) (by first | decide | omega) rfl dX5_answer_129 ?_
                    rw [sI_sI, gI_s]
                    refine gn_inc (i := 3) (a := t) (q := 1) rfl dX5_answer_130 (nle rfl) rfl ?_
                    refine go_goto (tgt := 250) dX5_answer_133 (by decide) ?_
                    refine gn_inc (i := 4) (a := i) (q := 1) rfl dX5_answer_250 (nle rfl) rfl ?_
                    refine go_goto (tgt := 25) dX5_answer_253 (by decide) ?_
                    rw [if_neg (show ¬ (420 ≤ a ∨ 24 ≤ t) by omega)] at he
                    rw [if_neg h83] at he
                    rw [if_pos h103] at he
                    rw [if_neg (by omega)] at he
                    exact ih _ _ _ _ _ (by omega) (by omega) he
                  · skip
                    refine go_aload_n (q := 0) (i := 0) rfl rfl dX5_answer_118 ?_
                    refine go_getR lf5_18 rfl hl.o hl.r2 dX5_answer_119 ?_
                    refine go_iload (i := 6) rfl dX5_answer_122 ?_
                    refine go_iald (j := o) hl.i2 (by omega) (by first | decide | omega) rfl dX5_answer_124 ?_
                    rw [gI_n (show la + 3 ≠ la + 4 by omega)]
                    refine go_goto (tgt := 129) dX5_answer_125 (by decide) ?_
                    refine go_iast (j := t) hl.i3 (by omega) (by first | decide | omega) rfl dX5_answer_129 ?_
                    rw [sI_sI, gI_s]
                    refine gn_inc (i := 3) (a := t) (q := 1) rfl dX5_answer_130 (nle rfl) rfl ?_
                    refine go_goto (tgt := 250) dX5_answer_133 (by decide) ?_
                    refine gn_inc (i := 4) (a := i) (q := 1) rfl dX5_answer_250 (nle rfl) rfl ?_
                    refine go_goto (tgt := 25) dX5_answer_253 (by decide) ?_
                    rw [if_neg (show ¬ (420 ≤ a ∨ 24 ≤ t) by omega)] at he
                    rw [if_neg h83] at he
                    rw [if_pos h103] at he
                    rw [if_pos h115] at he
                    exact ih _ _ _ _ _ (by omega) (by omega) he
              · skip
                refine go_aload_n (q := 0) (i := 0) rfl rfl dX5_answer_86 ?_
                refine go_getR lf5_21 rfl hl.o hl.r3 dX5_answer_87 ?_
                refine go_iload_n (q := 3) (i := 3) rfl rfl dX5_answer_90 ?_
                refine go_iload (i := 6) rfl dX5_answer_91 ?_
                refine go_iast (j := t) hl.i3 (by omega) (by first | decide | omega) rfl dX5_answer_93 ?_
                rw [sI_sI, gI_s]
                refine gn_inc (i := 3) (a := t) (q := 1) rfl dX5_answer_94 (nle rfl) rfl ?_
                refine go_goto (tgt := 250) dX5_answer_97 (by decide) ?_
                refine gn_inc (i := 4) (a := i) (q := 1) rfl dX5_answer_250 (nle rfl) rfl ?_
                refine go_goto (tgt := 25) dX5_answer_253 (by decide) ?_
                rw [if_neg (show ¬ (420 ≤ a ∨ 24 ≤ t) by omega)] at he
                rw [if_pos h83] at he
                exact ih _ _ _ _ _ (by omega) (by omega) he
            · skip
              refine go_iconst (v := nI 0) (by decide) dX5_answer_54 ?_
              refine go_iret rfl ⟨Nat.zero_le _, Nat.zero_le _⟩ dX5_answer_55 ?_
              rw [if_pos (by omega)] at he
              rw [← he]
              exact ⟨rfl, rfl⟩
  have k0 := key 0 (Nat.zero_le _) s 0 (gI m (la + 4)) none none (by omega) (by omega) hres
  rw [sI_self] at k0
  refine go_iload_n (q := 1) (i := 1) rfl rfl dX5_answer_0 ?_
  refine gz_lt (by omega) (tgt := 18) dX5_answer_1 (by decide) (fun h1 => by exfalso; omega) (fun h1 => ?_)
  refine go_iload_n (q := 1) (i := 1) rfl rfl dX5_answer_4 ?_
  refine go_iconst (v := nI 4) (by decide) dX5_answer_5 ?_
  refine gn_ge (by omega) (by omega) (tgt := 18) dX5_answer_6 (by decide) (fun h6 => by exfalso; omega) (fun h6 => ?_)
  refine go_aload_n (q := 0) (i := 0) rfl rfl dX5_answer_9 ?_
  refine go_getR lf5_15 rfl hl.o hl.r1 dX5_answer_10 ?_
  refine go_iload_n (q := 1) (i := 1) rfl rfl dX5_answer_13 ?_
  refine go_iald (j := k) hl.i1 (by omega) (by first | decide | omega) rfl dX5_answer_14 ?_
  rw [hs]
  refine go_goto (tgt := 19) dX5_answer_15 (by decide) ?_
  refine go_istore_n (q := 2) (i := 2) rfl dX5_answer_19 (nle rfl) (nle rfl) ?_
  refine go_iconst (v := nI 0) (by decide) dX5_answer_20 ?_
  refine go_istore_n (q := 3) (i := 3) rfl dX5_answer_21 (nle rfl) (nle rfl) ?_
  refine go_iconst (v := nI 0) (by decide) dX5_answer_22 ?_
  refine go_istore (i := 4) dX5_answer_23 (nle rfl) (nle rfl) ?_
  exact k0
