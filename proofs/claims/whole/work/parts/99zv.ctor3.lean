def TR10 (a : Nat) : Nat → Option Nat := (va_up (va_up (va_up (va_up (fun _ => none) 0 (some (a + 1))) 1 (some (a + 2))) 2 (some (a + 3))) 3 (some (a + 4)))
def TR7 (a : Nat) : Nat → Option Nat := (va_up (va_up (va_up (va_up (va_up (va_up (va_up (va_up (va_up (fun _ => none) 8 (some (a + 1))) 9 (some (a + 2))) 10 (some (a + 3))) 11 (some (a + 4))) 12 (some (a + 5))) 13 (some (a + 6))) 14 (some (a + 7))) 15 (some (a + 8))) 16 (some (a + 9)))
theorem wf7_of {n a : Nat} {R : Nat → Nat → Option Nat} (ha : a = 226 ∨ a = 241) (hn : a + 15 ≤ n) : Wf7 n (va_up (va_up R (a + 9) (TR5 (a + 9))) a (TR7 a)) a := by
  rcases ha with rfl | rfl <;> exact ⟨⟨by decide, by omega⟩, rfl, ⟨by decide, by omega⟩, rfl, ⟨by decide, by omega⟩, rfl, ⟨by decide, by omega⟩, rfl, ⟨by decide, by omega⟩, rfl, ⟨by decide, by omega⟩, rfl, ⟨by decide, by omega⟩, rfl, ⟨by decide, by omega⟩, rfl, ⟨by decide, by omega⟩, rfl, ⟨by decide, by omega⟩, rfl, ⟨by decide, by omega⟩, rfl, ⟨by decide, by omega⟩, rfl, ⟨by decide, by omega⟩, rfl, ⟨by decide, by omega⟩, rfl, ⟨by decide, by omega⟩⟩
set_option maxRecDepth 100000 in
set_option maxHeartbeats 4000000 in
/-- a plan is made -/
theorem ev_i7 {I : Nat → Nat → Int32} {J : Nat → Nat → Int64} {R : Nat → Nat → Option Nat} {a : Nat} (ha : a = 226 ∨ a = 241) (hz : Zr (a + 1) I J R) : Ev mX7_init [.ref a] (a + 1, I, J, va_up R a (fun _ => none)) (fun o m' => o = none ∧ ∃ I', m' = (a + 15, I', J, va_up (va_up R (a + 9) (TR5 (a + 9))) a (TR7 a)) ∧ (∀ x, ¬ (a ≤ x ∧ x ≤ a + 14) → I' x = I x) ∧ PzC m' a) := by
  refine ⟨plmX7_init, nle rfl, ?_⟩
  have hs : SHs a [(0, 7), (1, 40), (1, 40), (1, 4), (1, 4), (1, 6), (1, 6), (1, 6), (1, 6), (0, 5), (1, 420), (1, 4), (1, 9), (1, 24), (1, 24)] := by rcases ha with rfl | rfl <;> decide +kernel
  refine go_aload_n (q := 0) (i := 0) rfl rfl dX7_init_0 ?_
  refine go_obj (wg2 53 rfl rfl) okObj ⟨nle rfl, nle rfl⟩ dX7_init_1 ?_
  refine go_aload_n (q := 0) (i := 0) rfl rfl dX7_init_4 ?_
  refine go_bipush (v := nI 40) (by decide) dX7_init_5 ?_
  refine go_nwaI (N := 40) (Zr.up (hz.le (by omega)) (by omega)) (hs 1 (by decide)) (by decide) ⟨nle rfl, nle rfl⟩ dX7_init_7 ?_
  refine go_putE lf7_9 rfl fo7_9 (hs 0 (by decide)) (by omega) dX7_init_9 ?_
  refine go_aload_n (q := 0) (i := 0) rfl rfl dX7_init_12 ?_
  refine go_bipush (v := nI 40) (by decide) dX7_init_13 ?_
  refine go_nwaI (N := 40) (Zr.up (hz.le (by omega)) (by omega)) (hs 2 (by decide)) (by decide) ⟨nle rfl, nle rfl⟩ dX7_init_15 ?_
  refine go_putE lf7_15 rfl fo7_15 (hs 0 (by decide)) (by omega) dX7_init_17 ?_
  refine go_aload_n (q := 0) (i := 0) rfl rfl dX7_init_20 ?_
  refine go_iconst (v := nI 4) (by decide) dX7_init_21 ?_
  refine go_nwaI (N := 4) (Zr.up (hz.le (by omega)) (by omega)) (hs 3 (by decide)) (by decide) ⟨nle rfl, nle rfl⟩ dX7_init_22 ?_
  refine go_putE lf7_18 rfl fo7_18 (hs 0 (by decide)) (by omega) dX7_init_24 ?_
  refine go_aload_n (q := 0) (i := 0) rfl rfl dX7_init_27 ?_
  refine go_iconst (v := nI 4) (by decide) dX7_init_28 ?_
  refine go_nwaI (N := 4) (Zr.up (hz.le (by omega)) (by omega)) (hs 4 (by decide)) (by decide) ⟨nle rfl, nle rfl⟩ dX7_init_29 ?_
  refine go_putE lf7_21 rfl fo7_21 (hs 0 (by decide)) (by omega) dX7_init_31 ?_
  refine go_aload_n (q := 0) (i := 0) rfl rfl dX7_init_34 ?_
  refine go_bipush (v := nI 6) (by decide) dX7_init_35 ?_
  refine go_nwaI (N := 6) (Zr.up (hz.le (by omega)) (by omega)) (hs 5 (by decide)) (by decide) ⟨nle rfl, nle rfl⟩ dX7_init_37 ?_
  refine go_putE lf7_24 rfl fo7_24 (hs 0 (by decide)) (by omega) dX7_init_39 ?_
  refine go_aload_n (q := 0) (i := 0) rfl rfl dX7_init_42 ?_
  refine go_bipush (v := nI 6) (by decide) dX7_init_43 ?_
  refine go_nwaI (N := 6) (Zr.up (hz.le (by omega)) (by omega)) (hs 6 (by decide)) (by decide) ⟨nle rfl, nle rfl⟩ dX7_init_45 ?_
  refine go_putE lf7_27 rfl fo7_27 (hs 0 (by decide)) (by omega) dX7_init_47 ?_
  refine go_aload_n (q := 0) (i := 0) rfl rfl dX7_init_50 ?_
  refine go_bipush (v := nI 6) (by decide) dX7_init_51 ?_
  refine go_nwaI (N := 6) (Zr.up (hz.le (by omega)) (by omega)) (hs 7 (by decide)) (by decide) ⟨nle rfl, nle rfl⟩ dX7_init_53 ?_
  refine go_putE lf7_30 rfl fo7_30 (hs 0 (by decide)) (by omega) dX7_init_55 ?_
  refine go_aload_n (q := 0) (i := 0) rfl rfl dX7_init_58 ?_
  refine go_bipush (v := nI 6) (by decide) dX7_init_59 ?_
  refine go_nwaI (N := 6) (Zr.up (hz.le (by omega)) (by omega)) (hs 8 (by decide)) (by decide) ⟨nle rfl, nle rfl⟩ dX7_init_61 ?_
  refine go_putE lf7_33 rfl fo7_33 (hs 0 (by decide)) (by omega) dX7_init_63 ?_
  refine go_aload_n (q := 0) (i := 0) rfl rfl dX7_init_66 ?_
  refine go_newE (ci := 5) (Zr.up (hz.le (by omega)) (by omega)) (wg2 54 rfl rfl) (by decide) (wg2 55 rfl rfl) (wg1 16 rfl rfl) (hs 9 (by decide)) ⟨nle rfl, nle rfl⟩ dX7_init_67 ?_
  refine go_dup rfl dX7_init_70 ?_
  refine go_callI okmX5_init lmX7_38 ⟨nle rfl, nle rfl⟩ rfl (ev_i5 (Zr.up (hz.le (by omega)) (by omega)) (SHs.sub (i := 9) (l' := [(0, 5), (1, 420), (1, 4), (1, 9), (1, 24), (1, 24)]) hs (by decide))) npmX5_init rfl (nle rfl) ⟨nle rfl, nle rfl⟩ dX7_init_71 ?_
  rintro _ _ ⟨rfl, rfl⟩
  refine go_cN (c' := 14) (z' := 600) rfl rfl ?_
  refine go_putO lf7_39 rfl fo7_39 (hs 0 (by decide)) (by omega) (by omega) dX7_init_74 ?_
  refine go_aload_n (q := 0) (i := 0) rfl rfl dX7_init_77 ?_
  refine go_callV okmX7_clear lmX7_43 ⟨nle rfl, nle rfl⟩ (wf7_of (R := R) (n := a + 15) ha (Nat.le_refl _)).o ⟨by decide, rfl⟩ (ev_pclear (wf7_of (R := R) (n := a + 15) ha (Nat.le_refl _)) ha) npmX7_clear rfl (nle rfl) ⟨nle rfl, nle rfl⟩ dX7_init_78 ?_
  rintro _ ⟨n2, I2, J2, R2⟩ ⟨rfl, hp, f1, f2, f3, f4⟩
  have e1 : n2 = a + 15 := f1
  have e2 : R2 = _ := f2
  have e3 : J2 = J := funext fun x => f4 x (fun q => q)
  subst e1 e2 e3
  refine go_c0 ?_
  exact go_vret rfl ⟨nle rfl, nle rfl⟩ dX7_init_81 ⟨rfl, I2, rfl, fun x hx => f3 x hx, hp⟩
def txc (i : Nat) : Int32 := (txB.getD 0 []).getD i 0
/-- the words of the text: the word under way, the words so far -/
def kwJs (c : Int32) (s : Int64 × List Int64) : Int64 × List Int64 := if c = nI 32 then (if s.2.length < 23 then (0, s.2 ++ [s.1]) else s) else (keyS s.1 c, s.2)
def kwJ : Nat → Int64 × List Int64
  | 0 => (0, [])
  | i + 1 => kwJs (txc i) (kwJ i)
def kwRow (i : Nat) : Nat → Int64 := fun j => (kwJ i).2.getD j 0
theorem kwJ_len : ∀ i, (kwJ i).2.length ≤ 23
  | 0 => Nat.zero_le _
  | i + 1 => by
    have h := kwJ_len i
    show (kwJs (txc i) (kwJ i)).2.length ≤ 23
    unfold kwJs
    by_cases e : txc i = nI 32
    · rw [if_pos e]
      by_cases q : (kwJ i).2.length < 23
      · rw [if_pos q]
        show ((kwJ i).2 ++ [_]).length ≤ 23
        rw [List.length_append]
        exact q
      · rw [if_neg q]
        exact h
    · rw [if_neg e]
      exact h
theorem kwRow_app {l : List Int64} {k : Int64} : vp_updL (fun j => l.getD j 0) l.length k = fun j => (l ++ [k]).getD j 0 := by
  funext j
  show (if j = l.length then k else l.getD j 0) = (l ++ [k]).getD j 0
  rw [List.getD_eq_getElem?_getD (l := l ++ [k])]
  by_cases e : j = l.length
  · subst e
    rw [if_pos rfl, List.getElem?_append_right (Nat.le_refl _), Nat.sub_self]
    rfl
  · rw [if_neg e, List.getD_eq_getElem?_getD]
    by_cases h : j < l.length
    · rw [List.getElem?_append_left h]
    · rw [List.getElem?_eq_none (by omega), List.getElem?_eq_none (by rw [List.length_append]; show l.length + 1 ≤ j; omega)]
theorem wf10_of {n : Nat} {R : Nat → Nat → Option Nat} (hn : 8 ≤ n) : Wf10 n (va_up R 3 (TR10 3)) 3 := ⟨⟨by decide, by omega⟩, rfl, ⟨by decide, by omega⟩, rfl, ⟨by decide, by omega⟩, rfl, ⟨by decide, by omega⟩, rfl, ⟨by decide, by omega⟩⟩
theorem kw_all : ∀ k, k < 23 → kwRow 124 k = kwC k := by decide +kernel
set_option maxRecDepth 100000 in
set_option maxHeartbeats 4000000 in
/-- the tokens are made: the words' names are in place -/
theorem ev_i10 {I : Nat → Nat → Int32} {J : Nat → Nat → Int64} {R : Nat → Nat → Option Nat} (hz : Zr 4 I J R) (hi3 : I 3 = fun _ => 0) : Ev mX10_init [.ref 3] (4, I, J, va_up R 3 (fun _ => none)) (fun o m' => o = none ∧ m' = (8, va_up I 3 (upd (I 3) 7 (-1)), va_up J 4 (kwRow 124), va_up R 3 (TR10 3))) := by
  refine ⟨plmX10_init, nle rfl, ?_⟩
  have hs : SHs 3 [(0, 10), (4, 23), (1, 401), (4, 401), (1, 401)] := by decide +kernel
  have hw : Wf10 8 (va_up R 3 (TR10 3)) 3 := wf10_of (Nat.le_refl _)
  have key : ∀ i, i ≤ 124 → ∀ x5 : Option Value, Go mX10_init (fun o m' => o = none ∧ m' = (8, va_up I 3 (upd (I 3) 7 (-1)), va_up J 4 (kwRow 124), va_up R 3 (TR10 3))) 51 [some (.ref 3), some (.int (nI (kwJ i).2.length)), some (.long (kwJ i).1), none, some (.int (nI i)), x5] [] (8, va_up I 3 (upd (I 3) 7 (-1)), va_up J 4 (kwRow i), va_up R 3 (TR10 3)) 4 1226 := by
    refine loop_up 124 ?_ ?_
    · intro x5
      refine go_iload (i := 4) rfl dX10_init_51 ?_
      refine go_ldcT0 rfl dX10_init_53 ?_
      refine go_callT (i := 0) (by decide) rfl okmJ0_length_8abf5 lmX10_31 ⟨nle rfl, nle rfl⟩ (ev_sLength (i := 0) (L := 124) (by decide) (by decide +kernel) (by decide) (by decide)) npmJ0_length_8abf5 rfl (nle rfl) ⟨nle rfl, nle rfl⟩ dX10_init_55 ?_
      rintro _ _ ⟨rfl, rfl⟩
      refine go_c1 ?_
      refine gn_ge (by omega) (by omega) (tgt := 111) dX10_init_58 (by decide) (fun h58 => ?_) (fun h58 => by exfalso; omega)
      refine go_vret rfl ⟨nle rfl, nle rfl⟩ dX10_init_111 ?_
      exact ⟨rfl, rfl⟩
    · intro i hi ih x5
      have hw23 := kwJ_len i
      refine go_iload (i := 4) rfl dX10_init_51 ?_
      refine go_ldcT0 rfl dX10_init_53 ?_
      refine go_callT (i := 0) (by decide) rfl okmJ0_length_8abf5 lmX10_31 ⟨nle rfl, nle rfl⟩ (ev_sLength (i := 0) (L := 124) (by decide) (by decide +kernel) (by decide) (by decide)) npmJ0_length_8abf5 rfl (nle rfl) ⟨nle rfl, nle rfl⟩ dX10_init_55 ?_
      rintro _ _ ⟨rfl, rfl⟩
      refine go_c1 ?_
      refine gn_ge (by omega) (by omega) (tgt := 111) dX10_init_58 (by decide) (fun h58 => by exfalso; omega) (fun h58 => ?_)
      refine go_ldcT0 rfl dX10_init_61 ?_
      refine go_iload (i := 4) rfl dX10_init_63 ?_
      refine go_callT (i := 0) (by decide) rfl okmJ0_charAt_5068e lmX10_37 ⟨nle rfl, nle rfl⟩ (ev_sCharAt (i := 0) (j := i) (L := 124) (by decide) (by decide +kernel) (by decide) (by decide) (by omega)) npmJ0_charAt_5068e rfl (nle rfl) ⟨nle rfl, nle rfl⟩ dX10_init_65 ?_
      rintro _ _ ⟨rfl, rfl⟩
      rw [show (txB.getD 0 []).getD i 0 = txc i from rfl]
      refine go_c1 ?_
      refine go_istore (i := 5) dX10_init_68 (nle rfl) (nle rfl) ?_
      refine go_iload (i := 5) rfl dX10_init_70 ?_
      refine go_bipush (v := nI 32) (by decide) dX10_init_72 ?_
      refine go_icmp_eq (tgt := 87) dX10_init_74 (by decide) (fun h74 => ?_) (fun h74 => ?_)
      · skip
        refine go_iload_n (q := 1) (i := 1) rfl rfl dX10_init_87 ?_
        refine go_bipush (v := nI 23) (by decide) dX10_init_88 ?_
        refine gn_ge (by omega) (by omega) (tgt := 105) dX10_init_90 (by decide) (fun h90 => ?_) (fun h90 => ?_)
        · skip
          refine gn_inc (i := 4) (a := i) (q := 1) rfl dX10_init_105 (nle rfl) rfl ?_
          refine go_goto (tgt := 51) dX10_init_108 (by decide) ?_
          have e : kwJ (i + 1) = kwJ i := (if_pos h74).trans (if_neg (by omega))
          have k := ih (some (.int (txc i)))
          have er : kwRow (i + 1) = fun j => (kwJ (i + 1)).2.getD j 0 := rfl
          rw [er, e] at k
          exact k
        · skip
          refine go_aload_n (q := 0) (i := 0) rfl rfl dX10_init_93 ?_
          refine go_getR lf10_9 rfl hw.o hw.r0 dX10_init_94 ?_
          refine go_iload_n (q := 1) (i := 1) rfl rfl dX10_init_97 ?_
          refine go_lload_n (q := 2) (i := 2) rfl rfl dX10_init_98 ?_
          refine go_last (j := ((kwJ i).2.length)) hw.i0 (by omega) (by first | decide | omega) rfl dX10_init_99 ?_
          refine gn_inc (i := 1) (a := (kwJ i).2.length) (q := 1) rfl dX10_init_100 (nle rfl) rfl ?_
          refine go_lconst (v := 0) (by decide) dX10_init_103 ?_
          refine go_lstore_n (q := 2) (i := 2) rfl dX10_init_104 (nle rfl) (nle rfl) ?_
          refine gn_inc (i := 4) (a := i) (q := 1) rfl dX10_init_105 (nle rfl) rfl ?_
          refine go_goto (tgt := 51) dX10_init_108 (by decide) ?_
          have e : kwJ (i + 1) = (0, (kwJ i).2 ++ [(kwJ i).1]) := (if_pos h74).trans (if_pos (by omega))
          have k := ih (some (.int (txc i)))
          have er : kwRow (i + 1) = fun j => (kwJ (i + 1)).2.getD j 0 := rfl
          rw [er, e] at k
          have hl : ((kwJ i).2 ++ [(kwJ i).1]).length = (kwJ i).2.length + 1 := by rw [List.length_append]; rfl
          rw [show (0, (kwJ i).2 ++ [(kwJ i).1]).2.length = _ from hl] at k
          refine go_M ?_ k
          show (8, va_up I 3 (upd (I 3) 7 (-1)), va_up (va_up J 4 (kwRow i)) 4 (vp_updL (va_up J 4 (kwRow i) 4) (kwJ i).2.length (kwJ i).1), va_up R 3 (TR10 3)) = _
          rw [up_s, up_up, show kwRow i = fun j => (kwJ i).2.getD j 0 from rfl, kwRow_app]
      · skip
        refine go_lload_n (q := 2) (i := 2) rfl rfl dX10_init_77 ?_
        refine go_iload (i := 5) rfl dX10_init_78 ?_
        refine go_callS okmX10_keyWith lmX10_41 ⟨nle rfl, nle rfl⟩ (ev_keyWith) npmX10_keyWith rfl (nle rfl) ⟨nle rfl, nle rfl⟩ dX10_init_80 ?_
        rintro _ _ ⟨rfl, rfl⟩
        refine go_c1 ?_
        refine go_lstore_n (q := 2) (i := 2) rfl dX10_init_83 (nle rfl) (nle rfl) ?_
        refine go_goto (tgt := 105) dX10_init_84 (by decide) ?_
        refine gn_inc (i := 4) (a := i) (q := 1) rfl dX10_init_105 (nle rfl) rfl ?_
        refine go_goto (tgt := 51) dX10_init_108 (by decide) ?_
        have e : kwJ (i + 1) = (keyS (kwJ i).1 (txc i), (kwJ i).2) := if_neg h74
        have k := ih (some (.int (txc i)))
        have er : kwRow (i + 1) = fun j => (kwJ (i + 1)).2.getD j 0 := rfl
        rw [er, e] at k
        exact k
  refine go_aload_n (q := 0) (i := 0) rfl rfl dX10_init_0 ?_
  refine go_obj (wg1 49 rfl rfl) okObj ⟨nle rfl, nle rfl⟩ dX10_init_1 ?_
  refine go_aload_n (q := 0) (i := 0) rfl rfl dX10_init_4 ?_
  refine go_bipush (v := nI 23) (by decide) dX10_init_5 ?_
  refine go_nwaJ (N := 23) (Zr.up (hz.le (by omega)) (by omega)) (hs 1 (by decide)) (by decide) ⟨nle rfl, nle rfl⟩ dX10_init_7 ?_
  refine go_putE lf10_9 rfl fo10_9 (hs 0 (by decide)) (by omega) dX10_init_9 ?_
  refine go_aload_n (q := 0) (i := 0) rfl rfl dX10_init_12 ?_
  refine go_sipush (v := nI 401) (by decide) dX10_init_13 ?_
  refine go_nwaI (N := 401) (Zr.up (hz.le (by omega)) (by omega)) (hs 2 (by decide)) (by decide) ⟨nle rfl, nle rfl⟩ dX10_init_16 ?_
  refine go_putE lf10_15 rfl fo10_15 (hs 0 (by decide)) (by omega) dX10_init_18 ?_
  refine go_aload_n (q := 0) (i := 0) rfl rfl dX10_init_21 ?_
  refine go_sipush (v := nI 401) (by decide) dX10_init_22 ?_
  refine go_nwaJ (N := 401) (Zr.up (hz.le (by omega)) (by omega)) (hs 3 (by decide)) (by decide) ⟨nle rfl, nle rfl⟩ dX10_init_25 ?_
  refine go_putE lf10_19 rfl fo10_19 (hs 0 (by decide)) (by omega) dX10_init_27 ?_
  refine go_aload_n (q := 0) (i := 0) rfl rfl dX10_init_30 ?_
  refine go_sipush (v := nI 401) (by decide) dX10_init_31 ?_
  refine go_nwaI (N := 401) (Zr.up (hz.le (by omega)) (by omega)) (hs 4 (by decide)) (by decide) ⟨nle rfl, nle rfl⟩ dX10_init_34 ?_
  refine go_putE lf10_22 rfl fo10_22 (hs 0 (by decide)) (by omega) dX10_init_36 ?_
  refine go_aload_n (q := 0) (i := 0) rfl rfl dX10_init_39 ?_
  refine go_iconst (v := -1) (by decide) dX10_init_40 ?_
  refine go_putI lf10_25 rfl (Or.inl rfl) hw.o dX10_init_41 ?_
  refine go_iconst (v := nI 0) (by decide) dX10_init_44 ?_
  refine go_istore_n (q := 1) (i := 1) rfl dX10_init_45 (nle rfl) (nle rfl) ?_
  refine go_lconst (v := 0) (by decide) dX10_init_46 ?_
  refine go_lstore_n (q := 2) (i := 2) rfl dX10_init_47 (nle rfl) (nle rfl) ?_
  refine go_iconst (v := nI 0) (by decide) dX10_init_48 ?_
  refine go_istore (i := 4) dX10_init_49 (nle rfl) (nle rfl) ?_
  refine go_M ?_ (key 0 (Nat.zero_le _) none)
  show (8, va_up I 3 (upd (I 3) 7 (-1)), J, va_up R 3 (TR10 3)) = (8, va_up I 3 (upd (I 3) 7 (-1)), va_up J 4 (kwRow 0), va_up R 3 (TR10 3))
  rw [show kwRow 0 = fun _ => 0 from funext fun j => rfl, up_id (hz 4 (Nat.le_refl _)).2.1]
