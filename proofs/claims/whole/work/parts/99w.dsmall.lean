theorem take_s : ∀ (l : List Nat) (x : Nat), x < l.length → l.take (x + 1) = l.take x ++ [l.getD x 0]
  | a :: l, 0, _ => rfl
  | a :: l, x + 1, h => congrArg (List.cons a) (take_s l x (by have h : x + 1 < l.length + 1 := h; omega))
theorem nkC_t {l : List Nat} {x : Nat} (h : x < l.length) : nkC (l.take (x + 1)) = 32 * nkC (l.take x) + l.getD x 0 := by rw [take_s l x h, nkC_s]
theorem nkM_t {l : List Nat} {x : Nat} (h : x < l.length) : nkM (l.take (x + 1)) = 27 * nkM (l.take x) + l.getD x 0 := by rw [take_s l x h, nkM_s]
theorem ltO_d {l : List Nat} {x : Nat} (o : ltO l) (h : x < l.length) : 1 ≤ l.getD x 0 ∧ l.getD x 0 ≤ 26 := o _ (getD_mem h)
theorem nkC_dv {l : List Nat} (o : ltO l) : ∀ i, i ≤ l.length → nkC l / 2 ^ (5 * i) = nkC (l.take (l.length - i))
  | 0, _ => by rw [Nat.mul_zero, Nat.pow_zero, Nat.div_one, Nat.sub_zero, List.take_length]
  | i + 1, h => by
    have ih := nkC_dv o i (by omega)
    have ht := nkC_t (l := l) (x := l.length - (i + 1)) (by omega)
    rw [show l.length - (i + 1) + 1 = l.length - i by omega] at ht
    have hd := ltO_d (x := l.length - (i + 1)) o (by omega)
    rw [show 5 * (i + 1) = 5 * i + 5 by omega, Nat.pow_add, ← Nat.div_div_eq_div_mul, ih, ht, show (2 : Nat) ^ 5 = 32 by decide]
    omega
theorem nkC_p {l : List Nat} (o : ltO l) {x : Nat} (h0 : 0 < x) (h : x ≤ l.length) : 0 < nkC (l.take x) := by
  have ht := nkC_t (l := l) (x := x - 1) (by omega)
  rw [show x - 1 + 1 = x by omega] at ht
  have := ltO_d (x := x - 1) o (by omega)
  omega
theorem nkM_p {l : List Nat} (o : ltO l) {x : Nat} (h0 : 0 < x) (h : x ≤ l.length) : 0 < nkM (l.take x) := by
  have ht := nkM_t (l := l) (x := x - 1) (by omega)
  rw [show x - 1 + 1 = x by omega] at ht
  have := ltO_d (x := x - 1) o (by omega)
  omega
theorem ltO_tk {l : List Nat} (o : ltO l) (x : Nat) : ltO (l.take x) := fun c hc => o c (List.mem_of_mem_take hc)
theorem nkC_b {l : List Nat} (o : ltO l) (h8 : l.length ≤ 8) : nkC l < 2 ^ 50 := Nat.lt_of_lt_of_le (nkC_lt _ l rfl o) (Nat.le_trans (Nat.pow_le_pow_right (by decide) h8) (by decide))
theorem nkM_b {l : List Nat} (o : ltO l) (h8 : l.length ≤ 8) : nkM l < 2 ^ 50 := Nat.lt_of_lt_of_le (nkM_lt _ l rfl o) (Nat.le_trans (Nat.pow_le_pow_right (by decide) h8) (by decide))
theorem take_le {l : List Nat} (h8 : l.length ≤ 8) (x : Nat) : (l.take x).length ≤ 8 := by rw [List.length_take]; omega
/-- two names are one if their numbers are -/
theorem nm_C {l k : List Nat} (h : ltO l) (h8 : l.length ≤ 8) (j : ltO k) (j8 : k.length ≤ 8) : lg_cmp (lN (nkC l)) (lN (nkC k)) = 0 ↔ l = k := by
  rw [cmp_0, pk_lEQ (by have := nkC_b h h8; omega) (by have := nkC_b j j8; omega)]
  exact ⟨fun z => nkC_inj _ _ _ rfl h j z, fun z => by rw [z]⟩
theorem nm_M {l k : List Nat} (h : ltO l) (h8 : l.length ≤ 8) (j : ltO k) (j8 : k.length ≤ 8) : lg_cmp (lN (nkM l)) (lN (nkM k)) = 0 ↔ l = k := by
  rw [cmp_0, pk_lEQ (by have := nkM_b h h8; omega) (by have := nkM_b j j8; omega)]
  exact ⟨fun z => nkM_inj _ _ _ rfl h j z, fun z => by rw [z]⟩
set_option maxRecDepth 100000 in
set_option maxHeartbeats 8000000 in
theorem ev_lettersOf {m : Me} {l : List Nat} (hl : NmO l) : Ev mX10_lettersOf [.long (lN (nkC l))] m (fun o m' => o = some (.int (nI l.length)) ∧ m' = m) := by
  refine ⟨plmX10_lettersOf, nle rfl, ?_⟩
  have hb := nkC_b hl.1 hl.2.2
  have hl8 := hl.2.2
  have key : ∀ i, i ≤ 8 → i ≤ l.length → Go mX10_lettersOf (fun o m' => o = some (.int (nI l.length)) ∧ m' = m) 4 [some (.long (lN (nkC l))), none, some (.int (nI i)), some (.int (nI i))] [] m 0 0 := by
    refine loop_up 8 ?_ ?_
    · intro hi2
      refine go_iload_n (q := 3) (i := 3) rfl rfl dX10_lettersOf_4 ?_
      refine go_bipush (v := nI 8) (by decide) dX10_lettersOf_5 ?_
      refine gn_ge (by omega) (by omega) (tgt := 29) dX10_lettersOf_7 (by decide) (fun h7 => ?_) (fun h7 => by exfalso; omega)
      refine go_iload_n (q := 2) (i := 2) rfl rfl dX10_lettersOf_29 ?_
      refine go_iret rfl ⟨Nat.zero_le _, Nat.zero_le _⟩ dX10_lettersOf_30 ?_
      exact ⟨by rw [show l.length = 8 by omega], rfl⟩
    · intro i hi ih hi2
      refine go_iload_n (q := 3) (i := 3) rfl rfl dX10_lettersOf_4 ?_
      refine go_bipush (v := nI 8) (by decide) dX10_lettersOf_5 ?_
      refine gn_ge (by omega) (by omega) (tgt := 29) dX10_lettersOf_7 (by decide) (fun h7 => by exfalso; omega) (fun h7 => ?_)
      refine go_lload_n (q := 0) (i := 0) rfl rfl dX10_lettersOf_10 ?_
      refine go_iconst (v := nI 5) (by decide) dX10_lettersOf_11 ?_
      refine go_iload_n (q := 3) (i := 3) rfl rfl dX10_lettersOf_12 ?_
      refine gn_mul dX10_lettersOf_13 ?_
      refine go_lushr dX10_lettersOf_14 ?_
      rw [wb_shr (by omega) (by omega), nkC_dv hl.1 i hi2]
      refine go_lconst (v := 0) (by decide) dX10_lettersOf_15 ?_
      refine go_lcmp dX10_lettersOf_16 ?_
      refine go_if_eq (tgt := 29) dX10_lettersOf_17 (by decide) (fun h17 => ?_) (fun h17 => ?_)
      · skip
        refine go_iload_n (q := 2) (i := 2) rfl rfl dX10_lettersOf_29 ?_
        refine go_iret rfl ⟨Nat.zero_le _, Nat.zero_le _⟩ dX10_lettersOf_30 ?_
        have hz := cmp_0.mp h17
        rw [show (0 : Int64) = lN 0 by rfl, pk_lEQ (by have := nkC_b (ltO_tk hl.1 (l.length - i)) (take_le hl.2.2 _); omega) (by decide)] at hz
        by_cases e : i < l.length
        · have := nkC_p hl.1 (x := l.length - i) (by omega) (by omega)
          omega
        · exact ⟨by rw [show i = l.length by omega], rfl⟩
      · skip
        refine gn_inc (i := 2) (a := i) (q := 1) rfl dX10_lettersOf_20 (nle rfl) rfl ?_
        refine gn_inc (i := 3) (a := i) (q := 1) rfl dX10_lettersOf_23 (nle rfl) rfl ?_
        refine go_goto (tgt := 4) dX10_lettersOf_26 (by decide) ?_
        refine ih ?_
        by_cases e : i < l.length
        · omega
        · exfalso
          apply h17
          rw [show l.length - i = 0 by omega]
          show lg_cmp (lN (nkC [])) 0 = 0
          decide
  refine go_iconst (v := nI 0) (by decide) dX10_lettersOf_0 ?_
  refine go_istore_n (q := 2) (i := 2) rfl dX10_lettersOf_1 (nle rfl) (nle rfl) ?_
  refine go_iconst (v := nI 0) (by decide) dX10_lettersOf_2 ?_
  refine go_istore_n (q := 3) (i := 3) rfl dX10_lettersOf_3 (nle rfl) (nle rfl) ?_
  exact key 0 (Nat.zero_le _) (Nat.zero_le _)
def owS (c : Nat) : Int32 := if c = 15 then nI 9 else if c ≤ 4 then nI (c - 1) else -1
set_option maxRecDepth 100000 in
set_option maxHeartbeats 4000000 in
theorem ev_ownerOf {m : Me} {c : Nat} (h1 : 1 ≤ c) (h2 : c ≤ 31) : Ev mX0_ownerOf [.int (nI c)] m (fun o m' => o = some (.int (owS c)) ∧ m' = m) := by
  refine ⟨plmX0_ownerOf, nle rfl, ?_⟩
  refine go_iload_n (q := 0) (i := 0) rfl rfl dX0_ownerOf_0 ?_
  refine go_bipush (v := nI 15) (by decide) dX0_ownerOf_1 ?_
  refine gn_ne (by omega) (by omega) (tgt := 9) dX0_ownerOf_3 (by decide) (fun h3 => ?_) (fun h3 => ?_)
  · skip
    refine go_iload_n (q := 0) (i := 0) rfl rfl dX0_ownerOf_9 ?_
    refine go_iconst (v := nI 1) (by decide) dX0_ownerOf_10 ?_
    refine gn_lt (by omega) (by omega) (tgt := 25) dX0_ownerOf_11 (by decide) (fun h11 => by exfalso; omega) (fun h11 => ?_)
    refine go_iload_n (q := 0) (i := 0) rfl rfl dX0_ownerOf_14 ?_
    refine go_iconst (v := nI 4) (by decide) dX0_ownerOf_15 ?_
    refine gn_gt (by omega) (by omega) (tgt := 25) dX0_ownerOf_16 (by decide) (fun h16 => ?_) (fun h16 => ?_)
    · skip
      refine go_iconst (v := -1) (by decide) dX0_ownerOf_25 ?_
      refine go_iret rfl ⟨Nat.zero_le _, Nat.zero_le _⟩ dX0_ownerOf_26 ?_
      refine ⟨?_, rfl⟩
      unfold owS
      rw [if_neg (by omega), if_neg (by omega)]
    · skip
      refine go_iload_n (q := 0) (i := 0) rfl rfl dX0_ownerOf_19 ?_
      refine go_iconst (v := nI 1) (by decide) dX0_ownerOf_20 ?_
      refine gn_sub (by omega) dX0_ownerOf_21 ?_
      refine go_goto (tgt := 26) dX0_ownerOf_22 (by decide) ?_
      refine go_iret rfl ⟨Nat.zero_le _, Nat.zero_le _⟩ dX0_ownerOf_26 ?_
      refine ⟨?_, rfl⟩
      unfold owS
      rw [if_neg (by omega), if_pos (by omega)]
  · skip
    refine go_bipush (v := nI 9) (by decide) dX0_ownerOf_6 ?_
    refine go_iret rfl ⟨Nat.zero_le _, Nat.zero_le _⟩ dX0_ownerOf_8 ?_
    refine ⟨?_, rfl⟩
    unfold owS
    rw [if_pos (by omega)]
set_option maxRecDepth 100000 in
set_option maxHeartbeats 4000000 in
theorem ev_putCell {m : Me} {pl x y : Nat} {v : Int32} (hp : Wf7 m.1 (gR m) pl) (hx : x < 8) (hy : y < 5) : Ev mX7_putCell [.ref pl, .int (nI x), .int (nI y), .int v] m (fun o m' => o = none ∧ m' = sI m (pl + 1) (upd (gI m (pl + 1)) (y * 8 + x) v)) := by
  refine ⟨plmX7_putCell, nle rfl, ?_⟩
  refine go_iload_n (q := 1) (i := 1) rfl rfl dX7_putCell_0 ?_
  refine gz_lt (by omega) (tgt := 31) dX7_putCell_1 (by decide) (fun h1 => by exfalso; omega) (fun h1 => ?_)
  refine go_iload_n (q := 1) (i := 1) rfl rfl dX7_putCell_4 ?_
  refine go_bipush (v := nI 8) (by decide) dX7_putCell_5 ?_
  refine gn_ge (by omega) (by omega) (tgt := 31) dX7_putCell_7 (by decide) (fun h7 => by exfalso; omega) (fun h7 => ?_)
  refine go_iload_n (q := 2) (i := 2) rfl rfl dX7_putCell_10 ?_
  refine gz_lt (by omega) (tgt := 31) dX7_putCell_11 (by decide) (fun h11 => by exfalso; omega) (fun h11 => ?_)
  refine go_iload_n (q := 2) (i := 2) rfl rfl dX7_putCell_14 ?_
  refine go_iconst (v := nI 5) (by decide) dX7_putCell_15 ?_
  refine gn_ge (by omega) (by omega) (tgt := 31) dX7_putCell_16 (by decide) (fun h16 => by exfalso; omega) (fun h16 => ?_)
  refine go_aload_n (q := 0) (i := 0) rfl rfl dX7_putCell_19 ?_
  refine go_getR lf7_9 rfl hp.o hp.r8 dX7_putCell_20 ?_
  refine go_iload_n (q := 2) (i := 2) rfl rfl dX7_putCell_23 ?_
  refine go_bipush (v := nI 8) (by decide) dX7_putCell_24 ?_
  refine gn_mul dX7_putCell_26 ?_
  refine go_iload_n (q := 1) (i := 1) rfl rfl dX7_putCell_27 ?_
  refine gn_add dX7_putCell_28 ?_
  refine go_iload_n (q := 3) (i := 3) rfl rfl dX7_putCell_29 ?_
  refine go_iast (j := ((y * 8) + x)) hp.i8 (by omega) (by first | decide | omega) rfl dX7_putCell_30 ?_
  refine go_vret rfl ⟨Nat.zero_le _, Nat.zero_le _⟩ dX7_putCell_31 ?_
  exact ⟨rfl, rfl⟩
/-- the fault that stands in the text, if any -/
def FT (m : Me) (B : Nat → Nat) (n z : Nat) (w : Nat × Nat) : Prop := gI m 3 6 = nI w.1 ∧ (w.1 = 0 → gI m 3 7 = -1) ∧ (w.1 ≠ 0 → gI m 3 7 = nI (pG B n z w.2)) ∧ w.1 ≤ 9
/-- only the fault is written -/
def Fz (m m' : Me) : Prop := Fx (fun x => x = 3) (fun _ => False) m m' ∧ ∀ k, k ≠ 6 → k ≠ 7 → gI m' 3 k = gI m 3 k
theorem Fz.rf {m : Me} : Fz m m := ⟨Fx.rf, fun _ _ _ => rfl⟩
theorem Fz.tr {m m' m'' : Me} (h : Fz m m') (k : Fz m' m'') : Fz m m'' := ⟨h.1.tr k.1, fun x a b => (k.2 x a b).trans (h.2 x a b)⟩
theorem Fz.w {m m' : Me} (c : Fz m m') (h : Wf10 m.1 (gR m) 3) : Wf10 m'.1 (gR m') 3 := c.1.to (F := fun q s => Wf10 q s 3) h
theorem Fz.t {m m' : Me} {B : Nat → Nat} {n z : Nat} (c : Fz m m') (h : TkX m B n z) : TkX m' B n z := h.keep (c.2 4 (by decide) (by decide)) (c.2 5 (by decide) (by decide)) (c.1.at (by decide)) (c.1.at (by decide)) (by rw [c.1.aj (fun a => a)])
theorem FT.of {m m' : Me} {B : Nat → Nat} {n z : Nat} {w : Nat × Nat} (h : FT m B n z w) (a : gI m' 3 = gI m 3) : FT m' B n z w := by
  unfold FT
  rw [a]
  exact h
theorem ev_failw {m : Me} {B : Nat → Nat} {n z c j : Nat} {w : Nat × Nat} (hw : Wf10 m.1 (gR m) 3) (hf : FT m B n z w) (hc : 0 < c ∧ c ≤ 9) : Ev mX10_fail [.ref 3, .int (nI c), .int (nI (pG B n z j))] m (fun o m' => o = none ∧ FT m' B n z (wq True c j w) ∧ Fz m m') := by
  refine (ev_fail hw).mono ?_
  rintro o m' ⟨rfl, rfl⟩
  have h9 := hf.2.2.2
  by_cases h0 : w.1 = 0
  · have e : gI m 3 6 = nI 0 := by rw [hf.1, h0]
    rw [if_pos e, wq_t True.intro h0]
    refine ⟨rfl, ⟨?_, fun q => absurd q (by show ¬ c = 0; omega), fun _ => ?_, hc.2⟩, Fx.I (Fx.I Fx.rf rfl) rfl, fun k a b => ?_⟩
    · rw [gI_s, upd_ne (by decide), gI_s, upd_same]
    · rw [gI_s, upd_same]
    · rw [gI_s, upd_ne b, gI_s, upd_ne a]
  · have e : ¬ gI m 3 6 = nI 0 := by rw [hf.1, nI_eq (by omega) (by omega)]; exact h0
    rw [if_neg e, wq_s h0]
    exact ⟨rfl, hf, Fz.rf⟩
set_option maxRecDepth 100000 in
set_option maxHeartbeats 8000000 in
theorem ev_number {m : Me} {B : Nat → Nat} {n z : Nat} {w : Nat × Nat} (hT : TkX m B n z) (hw : Wf10 m.1 (gR m) 3) (hf : FT m B n z w) {j a b : Nat} (hj : j ≤ 2000) (hk : kG B n z j = 24) (hv : vG B n z j < 65536) (ha : a < 65536) (hb : b < 65536) : Ev mX0_number [.ref 10, .ref 3, .int (nI j), .int (nI a), .int (nI b)] m (fun o m' => o = some (.int (nI (vG B n z j))) ∧ FT m' B n z (wq (vG B n z j < a ∨ b < vG B n z j) 5 j w) ∧ Fz m m') := by
  refine ⟨plmX0_number, nle rfl, ?_⟩
  refine go_aload_n (q := 1) (i := 1) rfl rfl dX0_number_0 ?_
  refine go_iload_n (q := 2) (i := 2) rfl rfl dX0_number_1 ?_
  refine go_callV okmX10_valueAt lmX0_103 ⟨nle rfl, nle rfl⟩ hw.o ⟨by decide, rfl⟩ (ev_tv hT hw hj) npmX10_valueAt rfl (nle rfl) ⟨nle rfl, nle rfl⟩ dX0_number_2 ?_
  rintro _ mz ⟨⟨x, rfl, hx1, hx2⟩, hz⟩
  subst mz
  refine go_c1 ?_
  refine go_l2i dX0_number_5 ?_
  rw [hx1 hk, lN_i]
  refine go_istore (i := 5) dX0_number_6 (nle rfl) (nle rfl) ?_
  refine go_iload (i := 5) rfl dX0_number_8 ?_
  refine go_iload_n (q := 3) (i := 3) rfl rfl dX0_number_10 ?_
  refine gn_lt (by omega) (by omega) (tgt := 21) dX0_number_11 (by decide) (fun h11 => ?_) (fun h11 => ?_)
  · skip
    refine go_aload_n (q := 1) (i := 1) rfl rfl dX0_number_21 ?_
    refine go_iconst (v := nI 5) (by decide) dX0_number_22 ?_
    refine go_aload_n (q := 1) (i := 1) rfl rfl dX0_number_23 ?_
    refine go_iload_n (q := 2) (i := 2) rfl rfl dX0_number_24 ?_
    refine go_callV okmX10_placeAt lmX0_111 ⟨nle rfl, nle rfl⟩ hw.o ⟨by decide, rfl⟩ (ev_tp hT hw hj) npmX10_placeAt rfl (nle rfl) ⟨nle rfl, nle rfl⟩ dX0_number_25 ?_
    rintro _ mz ⟨rfl, hz⟩
    subst mz
    refine go_c1 ?_
    refine go_callV okmX10_fail lmX0_63 ⟨nle rfl, nle rfl⟩ hw.o ⟨by decide, rfl⟩ (ev_failw hw hf (c := 5) (by decide)) npmX10_fail rfl (nle rfl) ⟨nle rfl, nle rfl⟩ dX0_number_28 ?_
    rintro _ m2 ⟨rfl, f1, f2⟩
    refine go_c0 ?_
    refine go_iload (i := 5) rfl dX0_number_31 ?_
    refine go_iret rfl ⟨Nat.zero_le _, Nat.zero_le _⟩ dX0_number_33 ?_
    rw [wq_e (d := True) (by simp only [iff_true]; omega)]
    exact ⟨rfl, f1, f2⟩
  · skip
    refine go_iload (i := 5) rfl dX0_number_14 ?_
    refine go_iload (i := 4) rfl dX0_number_16 ?_
    refine gn_le (by omega) (by omega) (tgt := 31) dX0_number_18 (by decide) (fun h18 => ?_) (fun h18 => ?_)
    · skip
      refine go_iload (i := 5) rfl dX0_number_31 ?_
      refine go_iret rfl ⟨Nat.zero_le _, Nat.zero_le _⟩ dX0_number_33 ?_
      rw [wq_n (by omega)]
      exact ⟨rfl, hf, Fz.rf⟩
    · skip
      refine go_aload_n (q := 1) (i := 1) rfl rfl dX0_number_21 ?_
      refine go_iconst (v := nI 5) (by decide) dX0_number_22 ?_
      refine go_aload_n (q := 1) (i := 1) rfl rfl dX0_number_23 ?_
      refine go_iload_n (q := 2) (i := 2) rfl rfl dX0_number_24 ?_
      refine go_callV okmX10_placeAt lmX0_111 ⟨nle rfl, nle rfl⟩ hw.o ⟨by decide, rfl⟩ (ev_tp hT hw hj) npmX10_placeAt rfl (nle rfl) ⟨nle rfl, nle rfl⟩ dX0_number_25 ?_
      rintro _ mz ⟨rfl, hz⟩
      subst mz
      refine go_c1 ?_
      refine go_callV okmX10_fail lmX0_63 ⟨nle rfl, nle rfl⟩ hw.o ⟨by decide, rfl⟩ (ev_failw hw hf (c := 5) (by decide)) npmX10_fail rfl (nle rfl) ⟨nle rfl, nle rfl⟩ dX0_number_28 ?_
      rintro _ m2 ⟨rfl, f1, f2⟩
      refine go_c0 ?_
      refine go_iload (i := 5) rfl dX0_number_31 ?_
      refine go_iret rfl ⟨Nat.zero_le _, Nat.zero_le _⟩ dX0_number_33 ?_
      rw [wq_e (d := True) (by simp only [iff_true]; omega)]
      exact ⟨rfl, f1, f2⟩
/-- the names, as the class's drafter holds them -/
def NmC (m : Me) (D : Dr) : Prop := D.n 2 ≤ 4 ∧ D.n 3 ≤ 6 ∧ (∀ h, h < D.n 2 → gJ m 11 h = lN (nkC (D.nm 0 h)) ∧ NmO (D.nm 0 h)) ∧ ∀ u, u < D.n 3 → gJ m 12 u = lN (nkC (D.nm 1 u)) ∧ NmO (D.nm 1 u)
theorem fnd_i {D : Dr} {l : List Nat} {i : Nat} (hi : i ≤ D.n 2) (h : ∀ j, j < i → ¬ D.nm 0 j = l) (h2 : i < D.n 2 → D.nm 0 i = l) : fnd D l = i := by
  unfold fnd
  refine enF_u _ _ _ (Nat.zero_le _) (by omega) (fun j _ hj => ⟨by omega, h j hj⟩) (fun q => q.2 (h2 q.1))
set_option maxRecDepth 100000 in
set_option maxHeartbeats 8000000 in
theorem ev_hnamed {m : Me} {dr : Nat} {D : Dr} {l : List Nat} (hd : Wf0 m.1 (gR m) 10) (hp : Wf7 m.1 (gR m) dr) (hc : gI m dr 2 = nI (D.n 2)) (hN : NmC m D) (hl : NmO l) : Ev mX0_holdingNamed [.ref 10, .ref dr, .long (lN (nkC l))] m (fun o m' => o = some (.int (if fnd D l < D.n 2 then nI (fnd D l) else -1)) ∧ m' = m) := by
  refine ⟨plmX0_holdingNamed, nle rfl, ?_⟩
  have hN4 := hN.1
  have key : ∀ i, i ≤ 4 → i ≤ D.n 2 → (∀ j, j < i → ¬ D.nm 0 j = l) → Go mX0_holdingNamed (fun o m' => o = some (.int (if fnd D l < D.n 2 then nI (fnd D l) else -1)) ∧ m' = m) 3 [some (.ref 10), some (.ref dr), some (.long (lN (nkC l))), none, some (.int (nI i))] [] m 0 0 := by
    refine loop_up 4 ?_ ?_
    · intro hi2 hn
      refine go_iload (i := 4) rfl dX0_holdingNamed_3 ?_
      refine go_aload_n (q := 1) (i := 1) rfl rfl dX0_holdingNamed_5 ?_
      refine go_getI lf0_126 rfl hp.o dX0_holdingNamed_6 ?_
      rw [hc]
      refine gn_ge (by omega) (by omega) (tgt := 39) dX0_holdingNamed_9 (by decide) (fun h9 => ?_) (fun h9 => ?_)
      · skip
        refine go_iconst (v := -1) (by decide) dX0_holdingNamed_39 ?_
        refine go_iret rfl ⟨Nat.zero_le _, Nat.zero_le _⟩ dX0_holdingNamed_40 ?_
        have e : fnd D l = D.n 2 := fnd_i (Nat.le_refl _) (fun j hj => hn j (by omega)) (fun q => absurd q (Nat.lt_irrefl _))
        rw [if_neg (by omega)]
        exact ⟨rfl, rfl⟩
      · skip
        refine go_iload (i := 4) rfl dX0_holdingNamed_12 ?_
        refine go_iconst (v := nI 4) (by decide) dX0_holdingNamed_14 ?_
        refine gn_ge (by omega) (by omega) (tgt := 39) dX0_holdingNamed_15 (by decide) (fun h15 => ?_) (fun h15 => by exfalso; omega)
        refine go_iconst (v := -1) (by decide) dX0_holdingNamed_39 ?_
        refine go_iret rfl ⟨Nat.zero_le _, Nat.zero_le _⟩ dX0_holdingNamed_40 ?_
        have e : fnd D l = D.n 2 := fnd_i (Nat.le_refl _) (fun j hj => hn j (by omega)) (fun q => absurd q (Nat.lt_irrefl _))
        rw [if_neg (by omega)]
        exact ⟨rfl, rfl⟩
    · intro i hi ih hi2 hn
      refine go_iload (i := 4) rfl dX0_holdingNamed_3 ?_
      refine go_aload_n (q := 1) (i := 1) rfl rfl dX0_holdingNamed_5 ?_
      refine go_getI lf0_126 rfl hp.o dX0_holdingNamed_6 ?_
      rw [hc]
      refine gn_ge (by omega) (by omega) (tgt := 39) dX0_holdingNamed_9 (by decide) (fun h9 => ?_) (fun h9 => ?_)
      · skip
        refine go_iconst (v := -1) (by decide) dX0_holdingNamed_39 ?_
        refine go_iret rfl ⟨Nat.zero_le _, Nat.zero_le _⟩ dX0_holdingNamed_40 ?_
        have e : fnd D l = D.n 2 := fnd_i (Nat.le_refl _) (fun j hj => hn j (by omega)) (fun q => absurd q (Nat.lt_irrefl _))
        rw [if_neg (by omega)]
        exact ⟨rfl, rfl⟩
      · skip
        refine go_iload (i := 4) rfl dX0_holdingNamed_12 ?_
        refine go_iconst (v := nI 4) (by decide) dX0_holdingNamed_14 ?_
        refine gn_ge (by omega) (by omega) (tgt := 39) dX0_holdingNamed_15 (by decide) (fun h15 => by exfalso; omega) (fun h15 => ?_)
        refine go_aload_n (q := 0) (i := 0) rfl rfl dX0_holdingNamed_18 ?_
        refine go_getR lf0_9 rfl hd.o hd.r0 dX0_holdingNamed_19 ?_
        refine go_iload (i := 4) rfl dX0_holdingNamed_22 ?_
        refine go_lald (j := i) hd.i0 (by omega) (by first | decide | omega) rfl dX0_holdingNamed_24 ?_
        rw [(hN.2.2.1 i (by omega)).1]
        refine go_lload_n (q := 2) (i := 2) rfl rfl dX0_holdingNamed_25 ?_
        refine go_lcmp dX0_holdingNamed_26 ?_
        refine go_if_ne (tgt := 33) dX0_holdingNamed_27 (by decide) (fun h27 => ?_) (fun h27 => ?_)
        · skip
          refine gn_inc (i := 4) (a := i) (q := 1) rfl dX0_holdingNamed_33 (nle rfl) rfl ?_
          refine go_goto (tgt := 3) dX0_holdingNamed_36 (by decide) ?_
          exact ih (by omega) (fun j hj => by
            by_cases e : j = i
            · rw [e]; exact fun q => h27 ((nm_C (hN.2.2.1 i (by omega)).2.1 (hN.2.2.1 i (by omega)).2.2.2 hl.1 hl.2.2).mpr q)
            · exact hn j (by omega))
        · skip
          refine go_iload (i := 4) rfl dX0_holdingNamed_30 ?_
          refine go_iret rfl ⟨Nat.zero_le _, Nat.zero_le _⟩ dX0_holdingNamed_32 ?_
          have e : fnd D l = i := fnd_i (by omega) hn (fun q => (nm_C (hN.2.2.1 i q).2.1 (hN.2.2.1 i q).2.2.2 hl.1 hl.2.2).mp h27)
          rw [if_pos (by omega), e]
          exact ⟨rfl, rfl⟩
  refine go_iconst (v := nI 0) (by decide) dX0_holdingNamed_0 ?_
  refine go_istore (i := 4) dX0_holdingNamed_1 (nle rfl) (nle rfl) ?_
  exact key 0 (Nat.zero_le _) (Nat.zero_le _) (fun j hj => absurd hj (Nat.not_lt_zero j))
