/-- only rows of A may be others -/
def Ch (A : Nat → Prop) (m m' : Me) : Prop := m'.1 = m.1 ∧ gJ m' = gJ m ∧ gR m' = gR m ∧ ∀ x, ¬ A x → gI m' x = gI m x
theorem Ch.rf {A : Nat → Prop} {m : Me} : Ch A m m := ⟨rfl, rfl, rfl, fun _ _ => rfl⟩
theorem Ch.tr {A : Nat → Prop} {m m' m'' : Me} (h : Ch A m m') (k : Ch A m' m'') : Ch A m m'' := ⟨k.1.trans h.1, k.2.1.trans h.2.1, k.2.2.1.trans h.2.2.1, fun x hx => (k.2.2.2 x hx).trans (h.2.2.2 x hx)⟩
theorem Ch.mn {A B : Nat → Prop} {m m' : Me} (h : Ch A m m') (hAB : ∀ x, A x → B x) : Ch B m m' := ⟨h.1, h.2.1, h.2.2.1, fun x hx => h.2.2.2 x (fun q => hx (hAB x q))⟩
theorem Ch.I {A : Nat → Prop} {m : Me} {a : Nat} {r : Nat → Int32} (h : A a) : Ch A m (sI m a r) := ⟨rfl, rfl, rfl, fun x hx => gI_n (fun q => hx (by rw [q]; exact h))⟩
theorem Ch.to {A : Nat → Prop} {m m' : Me} {F : Nat → (Nat → Nat → Option Nat) → Prop} (c : Ch A m m') (h : F m.1 (gR m)) : F m'.1 (gR m') := by
  rw [c.1, c.2.2.1]
  exact h
theorem Ch.at {A : Nat → Prop} {m m' : Me} (c : Ch A m m') {x : Nat} (h : ¬ A x) : gI m' x = gI m x := c.2.2.2 x h
/-- what a Going holds, as one row: fog, whose, store, drew, loans, hour -/
def gw (m : Me) (g : Nat) : Nat → Int32 := fun k => if k < 40 then gI m (g + 1) k else if k < 80 then gI m (g + 2) (k - 40) else if k < 84 then gI m (g + 3) (k - 80) else if k < 88 then gI m (g + 4) (k - 84) else if k < 104 then gI m (g + 5) (k - 88) else gI m g 0
theorem gw_f {m : Me} {g k : Nat} (h : k < 40) : gI m (g + 1) k = gw m g k := (if_pos h).symm
theorem gw_w {m : Me} {g k : Nat} (h : k < 40) : gI m (g + 2) k = gw m g (40 + k) := by
  unfold gw; rw [if_neg (by omega), if_pos (by omega), show 40 + k - 40 = k by omega]
theorem gw_s {m : Me} {g k : Nat} (h : k < 4) : gI m (g + 3) k = gw m g (80 + k) := by
  unfold gw; rw [if_neg (by omega), if_neg (by omega), if_pos (by omega), show 80 + k - 80 = k by omega]
theorem gw_d {m : Me} {g k : Nat} (h : k < 4) : gI m (g + 4) k = gw m g (84 + k) := by
  unfold gw; rw [if_neg (by omega), if_neg (by omega), if_neg (by omega), if_pos (by omega), show 84 + k - 84 = k by omega]
theorem gw_l {m : Me} {g k : Nat} (h : k < 16) : gI m (g + 5) k = gw m g (88 + k) := by
  unfold gw; rw [if_neg (by omega), if_neg (by omega), if_neg (by omega), if_neg (by omega), if_pos (by omega), show 88 + k - 88 = k by omega]
theorem gw_h {m : Me} {g : Nat} : gI m g 0 = gw m g 104 := by
  unfold gw; rw [if_neg (by omega), if_neg (by omega), if_neg (by omega), if_neg (by omega), if_neg (by omega)]
theorem gw_eq {m m' : Me} {g o : Nat} (h1 : ∀ k, k < 40 → gI m' (g + 1) k = gI m (o + 1) k) (h2 : ∀ k, k < 40 → gI m' (g + 2) k = gI m (o + 2) k) (h3 : ∀ k, k < 4 → gI m' (g + 3) k = gI m (o + 3) k) (h4 : ∀ k, k < 4 → gI m' (g + 4) k = gI m (o + 4) k) (h5 : ∀ k, k < 16 → gI m' (g + 5) k = gI m (o + 5) k) (h6 : gI m' g 0 = gI m o 0) : gw m' g = gw m o := by
  funext k
  unfold gw
  by_cases c1 : k < 40
  · rw [if_pos c1, if_pos c1, h1 k c1]
  · rw [if_neg c1, if_neg c1]
    by_cases c2 : k < 80
    · rw [if_pos c2, if_pos c2, h2 _ (by omega)]
    · rw [if_neg c2, if_neg c2]
      by_cases c3 : k < 84
      · rw [if_pos c3, if_pos c3, h3 _ (by omega)]
      · rw [if_neg c3, if_neg c3]
        by_cases c4 : k < 88
        · rw [if_pos c4, if_pos c4, h4 _ (by omega)]
        · rw [if_neg c4, if_neg c4]
          by_cases c5 : k < 104
          · rw [if_pos c5, if_pos c5, h5 _ (by omega)]
          · rw [if_neg c5, if_neg c5, h6]
theorem gw_keep {A : Nat → Prop} {m m' : Me} {g : Nat} (c : Ch A m m') (h : ∀ x, g ≤ x → x ≤ g + 5 → ¬ A x) : gw m' g = gw m g := by
  refine gw_eq (fun k _ => ?_) (fun k _ => ?_) (fun k _ => ?_) (fun k _ => ?_) (fun k _ => ?_) ?_
  all_goals (rw [c.at (h _ (by omega) (by omega))])
set_option maxRecDepth 100000 in
set_option maxHeartbeats 4000000 in
theorem ev_copyFrom {m : Me} {g o : Nat} (hg : Wf1 m.1 (gR m) g) (ho : Wf1 m.1 (gR m) o) (hne : g + 5 < o ∨ o + 5 < g) : Ev mX1_copyFrom [.ref g, .ref o] m (fun r m' => r = none ∧ Ch (fun x => g ≤ x ∧ x ≤ g + 5) m m' ∧ gw m' g = gw m o) := by
  refine ⟨plmX1_copyFrom, nle rfl, ?_⟩
  refine go_aload_n (q := 0) (i := 0) rfl rfl dX1_copyFrom_0 ?_
  refine go_aload_n (q := 1) (i := 1) rfl rfl dX1_copyFrom_1 ?_
  refine go_getI lf1_27 rfl ho.o dX1_copyFrom_2 ?_
  refine go_putI lf1_27 rfl (Or.inl rfl) hg.o dX1_copyFrom_5 ?_
  refine go_aload_n (q := 1) (i := 1) rfl rfl dX1_copyFrom_8 ?_
  refine go_getR lf1_9 rfl ho.o ho.r1 dX1_copyFrom_9 ?_
  refine go_aload_n (q := 0) (i := 0) rfl rfl dX1_copyFrom_12 ?_
  refine go_getR lf1_9 rfl hg.o hg.r1 dX1_copyFrom_13 ?_
  refine go_callS okmX11_copy lmX1_34 ⟨nle rfl, nle rfl⟩ (ev_copy (by decide) ho.i1 hg.i1 (by omega)) npmX11_copy rfl (nle rfl) ⟨nle rfl, nle rfl⟩ dX1_copyFrom_16 ?_
  rintro _ _ ⟨rfl, rfl⟩
  refine go_c0 ?_
  refine go_aload_n (q := 1) (i := 1) rfl rfl dX1_copyFrom_19 ?_
  refine go_getR lf1_15 rfl ho.o ho.r2 dX1_copyFrom_20 ?_
  refine go_aload_n (q := 0) (i := 0) rfl rfl dX1_copyFrom_23 ?_
  refine go_getR lf1_15 rfl hg.o hg.r2 dX1_copyFrom_24 ?_
  refine go_callS okmX11_copy lmX1_34 ⟨nle rfl, nle rfl⟩ (ev_copy (by decide) ho.i2 hg.i2 (by omega)) npmX11_copy rfl (nle rfl) ⟨nle rfl, nle rfl⟩ dX1_copyFrom_27 ?_
  rintro _ _ ⟨rfl, rfl⟩
  refine go_c0 ?_
  refine go_aload_n (q := 1) (i := 1) rfl rfl dX1_copyFrom_30 ?_
  refine go_getR lf1_18 rfl ho.o ho.r3 dX1_copyFrom_31 ?_
  refine go_aload_n (q := 0) (i := 0) rfl rfl dX1_copyFrom_34 ?_
  refine go_getR lf1_18 rfl hg.o hg.r3 dX1_copyFrom_35 ?_
  refine go_callS okmX11_copy lmX1_34 ⟨nle rfl, nle rfl⟩ (ev_copy (by decide) ho.i3 hg.i3 (by omega)) npmX11_copy rfl (nle rfl) ⟨nle rfl, nle rfl⟩ dX1_copyFrom_38 ?_
  rintro _ _ ⟨rfl, rfl⟩
  refine go_c0 ?_
  refine go_aload_n (q := 1) (i := 1) rfl rfl dX1_copyFrom_41 ?_
  refine go_getR lf1_21 rfl ho.o ho.r4 dX1_copyFrom_42 ?_
  refine go_aload_n (q := 0) (i := 0) rfl rfl dX1_copyFrom_45 ?_
  refine go_getR lf1_21 rfl hg.o hg.r4 dX1_copyFrom_46 ?_
  refine go_callS okmX11_copy lmX1_34 ⟨nle rfl, nle rfl⟩ (ev_copy (by decide) ho.i4 hg.i4 (by omega)) npmX11_copy rfl (nle rfl) ⟨nle rfl, nle rfl⟩ dX1_copyFrom_49 ?_
  rintro _ _ ⟨rfl, rfl⟩
  refine go_c0 ?_
  refine go_aload_n (q := 1) (i := 1) rfl rfl dX1_copyFrom_52 ?_
  refine go_getR lf1_24 rfl ho.o ho.r5 dX1_copyFrom_53 ?_
  refine go_aload_n (q := 0) (i := 0) rfl rfl dX1_copyFrom_56 ?_
  refine go_getR lf1_24 rfl hg.o hg.r5 dX1_copyFrom_57 ?_
  refine go_callS okmX11_copy lmX1_34 ⟨nle rfl, nle rfl⟩ (ev_copy (by decide) ho.i5 hg.i5 (by omega)) npmX11_copy rfl (nle rfl) ⟨nle rfl, nle rfl⟩ dX1_copyFrom_60 ?_
  rintro _ _ ⟨rfl, rfl⟩
  refine go_c0 ?_
  refine go_vret rfl ⟨Nat.zero_le _, Nat.zero_le _⟩ dX1_copyFrom_63 ?_
  refine ⟨rfl, ?_, ?_⟩
  · refine Ch.tr (Ch.tr (Ch.tr (Ch.tr (Ch.tr (Ch.I ?_) (Ch.I ?_)) (Ch.I ?_)) (Ch.I ?_)) (Ch.I ?_)) (Ch.I ?_)
    all_goals (exact ⟨by omega, by omega⟩)
  · refine gw_eq (fun k hk => ?_) (fun k hk => ?_) (fun k hk => ?_) (fun k hk => ?_) (fun k hk => ?_) ?_
    · rw [gI_n (by omega), gI_n (by omega), gI_n (by omega), gI_n (by omega), gI_s, cp_in hk, gI_n (by omega)]
    · rw [gI_n (by omega), gI_n (by omega), gI_n (by omega), gI_s, cp_in hk, gI_n (by omega), gI_n (by omega)]
    · rw [gI_n (by omega), gI_n (by omega), gI_s, cp_in hk, gI_n (by omega), gI_n (by omega), gI_n (by omega)]
    · rw [gI_n (by omega), gI_s, cp_in hk, gI_n (by omega), gI_n (by omega), gI_n (by omega), gI_n (by omega)]
    · rw [gI_s, cp_in hk, gI_n (by omega), gI_n (by omega), gI_n (by omega), gI_n (by omega), gI_n (by omega)]
    · rw [gI_n (by omega), gI_n (by omega), gI_n (by omega), gI_n (by omega), gI_n (by omega), gI_s, upd, if_pos rfl]
/-- a new run of a plan -/
def bgS (m : Me) (pl : Nat) : Nat → Int32 := fun k => if k < 40 then gI m (pl + 2) k else if k < 80 then gI m (pl + 1) (k - 40) else if k < 84 then gI m (pl + 4) (k - 80) else nI 0
set_option maxRecDepth 100000 in
set_option maxHeartbeats 4000000 in
theorem ev_begin {m : Me} {g pl : Nat} (hg : Wf1 m.1 (gR m) g) (hp : Wf7 m.1 (gR m) pl) (hne : g + 5 < pl ∨ pl + 14 < g) : Ev mX1_begin [.ref g, .ref pl] m (fun r m' => r = none ∧ Ch (fun x => g ≤ x ∧ x ≤ g + 5) m m' ∧ gw m' g = bgS m pl) := by
  refine ⟨plmX1_begin, nle rfl, ?_⟩
  refine go_aload_n (q := 0) (i := 0) rfl rfl dX1_begin_0 ?_
  refine go_iconst (v := nI 0) (by decide) dX1_begin_1 ?_
  refine go_putI lf1_27 rfl (Or.inl rfl) hg.o dX1_begin_2 ?_
  refine go_aload_n (q := 1) (i := 1) rfl rfl dX1_begin_5 ?_
  refine go_getR lf1_31 rfl hp.o hp.r9 dX1_begin_6 ?_
  refine go_aload_n (q := 0) (i := 0) rfl rfl dX1_begin_9 ?_
  refine go_getR lf1_9 rfl hg.o hg.r1 dX1_begin_10 ?_
  refine go_callS okmX11_copy lmX1_34 ⟨nle rfl, nle rfl⟩ (ev_copy (by decide) hp.i9 hg.i1 (by omega)) npmX11_copy rfl (nle rfl) ⟨nle rfl, nle rfl⟩ dX1_begin_13 ?_
  rintro _ _ ⟨rfl, rfl⟩
  refine go_c0 ?_
  refine go_aload_n (q := 1) (i := 1) rfl rfl dX1_begin_16 ?_
  refine go_getR lf1_38 rfl hp.o hp.r8 dX1_begin_17 ?_
  refine go_aload_n (q := 0) (i := 0) rfl rfl dX1_begin_20 ?_
  refine go_getR lf1_15 rfl hg.o hg.r2 dX1_begin_21 ?_
  refine go_callS okmX11_copy lmX1_34 ⟨nle rfl, nle rfl⟩ (ev_copy (by decide) hp.i8 hg.i2 (by omega)) npmX11_copy rfl (nle rfl) ⟨nle rfl, nle rfl⟩ dX1_begin_24 ?_
  rintro _ _ ⟨rfl, rfl⟩
  refine go_c0 ?_
  refine go_aload_n (q := 1) (i := 1) rfl rfl dX1_begin_27 ?_
  refine go_getR lf1_39 rfl hp.o hp.r11 dX1_begin_28 ?_
  refine go_aload_n (q := 0) (i := 0) rfl rfl dX1_begin_31 ?_
  refine go_getR lf1_18 rfl hg.o hg.r3 dX1_begin_32 ?_
  refine go_callS okmX11_copy lmX1_34 ⟨nle rfl, nle rfl⟩ (ev_copy (by decide) hp.i11 hg.i3 (by omega)) npmX11_copy rfl (nle rfl) ⟨nle rfl, nle rfl⟩ dX1_begin_35 ?_
  rintro _ _ ⟨rfl, rfl⟩
  refine go_c0 ?_
  refine go_aload_n (q := 0) (i := 0) rfl rfl dX1_begin_38 ?_
  refine go_getR lf1_21 rfl hg.o hg.r4 dX1_begin_39 ?_
  refine go_iconst (v := nI 0) (by decide) dX1_begin_42 ?_
  refine go_callS okmX11_fill lmX1_40 ⟨nle rfl, nle rfl⟩ (ev_fill (by decide) hg.i4) npmX11_fill rfl (nle rfl) ⟨nle rfl, nle rfl⟩ dX1_begin_43 ?_
  rintro _ _ ⟨rfl, rfl⟩
  refine go_c0 ?_
  refine go_aload_n (q := 0) (i := 0) rfl rfl dX1_begin_46 ?_
  refine go_getR lf1_24 rfl hg.o hg.r5 dX1_begin_47 ?_
  refine go_iconst (v := nI 0) (by decide) dX1_begin_50 ?_
  refine go_callS okmX11_fill lmX1_40 ⟨nle rfl, nle rfl⟩ (ev_fill (by decide) hg.i5) npmX11_fill rfl (nle rfl) ⟨nle rfl, nle rfl⟩ dX1_begin_51 ?_
  rintro _ _ ⟨rfl, rfl⟩
  refine go_c0 ?_
  refine go_vret rfl ⟨Nat.zero_le _, Nat.zero_le _⟩ dX1_begin_54 ?_
  refine ⟨rfl, ?_, ?_⟩
  · refine Ch.tr (Ch.tr (Ch.tr (Ch.tr (Ch.tr (Ch.I ?_) (Ch.I ?_)) (Ch.I ?_)) (Ch.I ?_)) (Ch.I ?_)) (Ch.I ?_)
    all_goals (exact ⟨by omega, by omega⟩)
  · funext k
    unfold gw bgS
    by_cases c1 : k < 40
    · rw [if_pos c1, if_pos c1, gI_n (by omega), gI_n (by omega), gI_n (by omega), gI_n (by omega), gI_s, cp_in (by omega), gI_n (by omega)]
    · rw [if_neg c1, if_neg c1]
      by_cases c2 : k < 80
      · rw [if_pos c2, if_pos c2, gI_n (by omega), gI_n (by omega), gI_n (by omega), gI_s, cp_in (by omega), gI_n (by omega), gI_n (by omega)]
      · rw [if_neg c2, if_neg c2]
        by_cases c3 : k < 84
        · rw [if_pos c3, if_pos c3, gI_n (by omega), gI_n (by omega), gI_s, cp_in (by omega), gI_n (by omega), gI_n (by omega), gI_n (by omega)]
        · rw [if_neg c3, if_neg c3]
          by_cases c4 : k < 88
          · rw [if_pos c4, gI_n (by omega), gI_s, cp_in (by omega)]
          · rw [if_neg c4]
            by_cases c5 : k < 104
            · rw [if_pos c5, gI_s, cp_in (by omega)]
            · rw [if_neg c5, gI_n (by omega), gI_n (by omega), gI_n (by omega), gI_n (by omega), gI_n (by omega), gI_s, upd, if_pos rfl]
set_option maxRecDepth 100000 in
set_option maxHeartbeats 4000000 in
theorem ev_fogOnLand {m : Me} {g : Nat} (hg : Wf1 m.1 (gR m) g) : Ev mX1_fogOnLand [.ref g] m (fun r m' => r = some (.int (sm (gI m (g + 1)) 40)) ∧ m' = m) := by
  refine ⟨plmX1_fogOnLand, nle rfl, ?_⟩
  refine go_aload_n (q := 0) (i := 0) rfl rfl dX1_fogOnLand_0 ?_
  refine go_getR lf1_9 rfl hg.o hg.r1 dX1_fogOnLand_1 ?_
  refine go_callS okmX11_sum lmX1_44 ⟨nle rfl, nle rfl⟩ (ev_sum (by decide) hg.i1) npmX11_sum rfl (nle rfl) ⟨nle rfl, nle rfl⟩ dX1_fogOnLand_4 ?_
  rintro _ _ ⟨rfl, rfl⟩
  refine go_c1 ?_
  refine go_iret rfl ⟨Nat.zero_le _, Nat.zero_le _⟩ dX1_fogOnLand_7 ?_
  exact ⟨rfl, rfl⟩
/-- the fog on a holding's cells; how many these are -/
def fgS (f w : Nat → Int32) (h : Int32) : Nat → Int32
  | 0 => nI 0
  | i + 1 => if w i = h then fgS f w h i + f i else fgS f w h i
def ctS (w : Nat → Int32) (h : Int32) : Nat → Nat
  | 0 => 0
  | i + 1 => if w i = h then ctS w h i + 1 else ctS w h i
/-- cells without fog -/
def dryS (f w : Nat → Int32) : Nat → Nat
  | 0 => 0
  | i + 1 => if w i = -1 then dryS f w i else if f i = 0 then dryS f w i + 1 else dryS f w i
/-- the thickest: which, how much -/
def tkS (f w : Nat → Int32) : Nat → Int32 × Int32
  | 0 => (-1, -1)
  | i + 1 => if w i = -1 then tkS f w i else if f i ≤ (tkS f w i).2 then tkS f w i else (nI i, f i)
/-- where it is as thick, as bits -/
def atS (f w : Nat → Int32) (th : Int32) : Nat → Int64
  | 0 => 0
  | i + 1 => if w i = -1 then atS f w th i else if f i < th then atS f w th i else atS f w th i ||| ((1 : Int64) <<< ((nI i).toInt64 &&& 63))
set_option maxRecDepth 100000 in
set_option maxHeartbeats 4000000 in
theorem ev_fogOf {m : Me} {g : Nat} (hg : Wf1 m.1 (gR m) g) {h : Int32} : Ev mX1_fogOf [.ref g, .int h] m (fun r m' => r = some (.int (fgS (gI m (g + 1)) (gI m (g + 2)) h 40)) ∧ m' = m) := by
  refine ⟨plmX1_fogOf, nle rfl, ?_⟩
  have key : ∀ i, i ≤ 40 → Go mX1_fogOf (fun r m' => r = some (.int (fgS (gI m (g + 1)) (gI m (g + 2)) h 40)) ∧ m' = m) 4 [some (.ref g), some (.int h), some (.int (fgS (gI m (g + 1)) (gI m (g + 2)) h i)), some (.int (nI i))] [] (m) 0 0 := by
    refine loop_up 40 ?_ ?_
    · skip
      refine go_iload_n (q := 3) (i := 3) rfl rfl dX1_fogOf_4 ?_
      refine go_bipush (v := nI 40) (by decide) dX1_fogOf_5 ?_
      refine gn_ge (by omega) (by omega) (tgt := 35) dX1_fogOf_7 (by decide) (fun h7 => ?_) (fun h7 => by exfalso; omega)
      refine go_iload_n (q := 2) (i := 2) rfl rfl dX1_fogOf_35 ?_
      refine go_iret rfl ⟨Nat.zero_le _, Nat.zero_le _⟩ dX1_fogOf_36 ?_
      exact ⟨rfl, rfl⟩
    · intro i hi ih
      refine go_iload_n (q := 3) (i := 3) rfl rfl dX1_fogOf_4 ?_
      refine go_bipush (v := nI 40) (by decide) dX1_fogOf_5 ?_
      refine gn_ge (by omega) (by omega) (tgt := 35) dX1_fogOf_7 (by decide) (fun h7 => by exfalso; omega) (fun h7 => ?_)
      refine go_aload_n (q := 0) (i := 0) rfl rfl dX1_fogOf_10 ?_
      refine go_getR lf1_15 rfl hg.o hg.r2 dX1_fogOf_11 ?_
      refine go_iload_n (q := 3) (i := 3) rfl rfl dX1_fogOf_14 ?_
      refine go_iald (j := i) hg.i2 (by omega) (by first | decide | omega) rfl dX1_fogOf_15 ?_
      refine go_iload_n (q := 1) (i := 1) rfl rfl dX1_fogOf_16 ?_
      refine go_icmp_ne (tgt := 29) dX1_fogOf_17 (by decide) (fun h17 => ?_) (fun h17 => ?_)
      · skip
        refine gn_inc (i := 3) (a := i) (q := 1) rfl dX1_fogOf_29 (nle rfl) rfl ?_
        refine go_goto (tgt := 4) dX1_fogOf_32 (by decide) ?_
        rw [show fgS (gI m (g + 1)) (gI m (g + 2)) h (i + 1) = fgS (gI m (g + 1)) (gI m (g + 2)) h i from if_neg h17] at ih
        exact ih
      · skip
        refine go_iload_n (q := 2) (i := 2) rfl rfl dX1_fogOf_20 ?_
        refine go_aload_n (q := 0) (i := 0) rfl rfl dX1_fogOf_21 ?_
        refine go_getR lf1_9 rfl hg.o hg.r1 dX1_fogOf_22 ?_
        refine go_iload_n (q := 3) (i := 3) rfl rfl dX1_fogOf_25 ?_
        refine go_iald (j := i) hg.i1 (by omega) (by first | decide | omega) rfl dX1_fogOf_26 ?_
        refine go_iadd dX1_fogOf_27 ?_
        refine go_istore_n (q := 2) (i := 2) rfl dX1_fogOf_28 (nle rfl) (nle rfl) ?_
        refine gn_inc (i := 3) (a := i) (q := 1) rfl dX1_fogOf_29 (nle rfl) rfl ?_
        refine go_goto (tgt := 4) dX1_fogOf_32 (by decide) ?_
        rw [show fgS (gI m (g + 1)) (gI m (g + 2)) h (i + 1) = fgS (gI m (g + 1)) (gI m (g + 2)) h i + (gI m (g + 1)) i from if_pos h17] at ih
        exact ih
  have k0 := key 0 (Nat.zero_le _)
  refine go_iconst (v := nI 0) (by decide) dX1_fogOf_0 ?_
  refine go_istore_n (q := 2) (i := 2) rfl dX1_fogOf_1 (nle rfl) (nle rfl) ?_
  refine go_iconst (v := nI 0) (by decide) dX1_fogOf_2 ?_
  refine go_istore_n (q := 3) (i := 3) rfl dX1_fogOf_3 (nle rfl) (nle rfl) ?_
  exact k0
set_option maxRecDepth 100000 in
set_option maxHeartbeats 4000000 in
theorem ev_cellsOf {m : Me} {g : Nat} (hg : Wf1 m.1 (gR m) g) {h : Int32} : Ev mX1_cellsOf [.ref g, .int h] m (fun r m' => r = some (.int (nI (ctS (gI m (g + 2)) h 40))) ∧ m' = m) := by
  refine ⟨plmX1_cellsOf, nle rfl, ?_⟩
  have key : ∀ i, i ≤ 40 → Go mX1_cellsOf (fun r m' => r = some (.int (nI (ctS (gI m (g + 2)) h 40))) ∧ m' = m) 4 [some (.ref g), some (.int h), some (.int (nI (ctS (gI m (g + 2)) h i))), some (.int (nI i))] [] (m) 0 0 := by
    refine loop_up 40 ?_ ?_
    · skip
      refine go_iload_n (q := 3) (i := 3) rfl rfl dX1_cellsOf_4 ?_
      refine go_bipush (v := nI 40) (by decide) dX1_cellsOf_5 ?_
      refine gn_ge (by omega) (by omega) (tgt := 29) dX1_cellsOf_7 (by decide) (fun h7 => ?_) (fun h7 => by exfalso; omega)
      refine go_iload_n (q := 2) (i := 2) rfl rfl dX1_cellsOf_29 ?_
      refine go_iret rfl ⟨Nat.zero_le _, Nat.zero_le _⟩ dX1_cellsOf_30 ?_
      exact ⟨rfl, rfl⟩
    · intro i hi ih
      refine go_iload_n (q := 3) (i := 3) rfl rfl dX1_cellsOf_4 ?_
      refine go_bipush (v := nI 40) (by decide) dX1_cellsOf_5 ?_
      refine gn_ge (by omega) (by omega) (tgt := 29) dX1_cellsOf_7 (by decide) (fun h7 => by exfalso; omega) (fun h7 => ?_)
      refine go_aload_n (q := 0) (i := 0) rfl rfl dX1_cellsOf_10 ?_
      refine go_getR lf1_15 rfl hg.o hg.r2 dX1_cellsOf_11 ?_
      refine go_iload_n (q := 3) (i := 3) rfl rfl dX1_cellsOf_14 ?_
      refine go_iald (j := i) hg.i2 (by omega) (by first | decide | omega) rfl dX1_cellsOf_15 ?_
      refine go_iload_n (q := 1) (i := 1) rfl rfl dX1_cellsOf_16 ?_
      refine go_icmp_ne (tgt := 23) dX1_cellsOf_17 (by decide) (fun h17 => ?_) (fun h17 => ?_)
      · skip
        refine gn_inc (i := 3) (a := i) (q := 1) rfl dX1_cellsOf_23 (nle rfl) rfl ?_
        refine go_goto (tgt := 4) dX1_cellsOf_26 (by decide) ?_
        rw [show ctS (gI m (g + 2)) h (i + 1) = ctS (gI m (g + 2)) h i from if_neg h17] at ih
        exact ih
      · skip
        refine gn_inc (i := 2) (a := ctS (gI m (g + 2)) h i) (q := 1) rfl dX1_cellsOf_20 (nle rfl) rfl ?_
        refine gn_inc (i := 3) (a := i) (q := 1) rfl dX1_cellsOf_23 (nle rfl) rfl ?_
        refine go_goto (tgt := 4) dX1_cellsOf_26 (by decide) ?_
        rw [show ctS (gI m (g + 2)) h (i + 1) = ctS (gI m (g + 2)) h i + 1 from if_pos h17] at ih
        exact ih
  have k0 := key 0 (Nat.zero_le _)
  refine go_iconst (v := nI 0) (by decide) dX1_cellsOf_0 ?_
  refine go_istore_n (q := 2) (i := 2) rfl dX1_cellsOf_1 (nle rfl) (nle rfl) ?_
  refine go_iconst (v := nI 0) (by decide) dX1_cellsOf_2 ?_
  refine go_istore_n (q := 3) (i := 3) rfl dX1_cellsOf_3 (nle rfl) (nle rfl) ?_
  exact k0
set_option maxRecDepth 100000 in
set_option maxHeartbeats 4000000 in
theorem ev_dry {m : Me} {g : Nat} (hg : Wf1 m.1 (gR m) g) : Ev mX1_cellsWithoutFog [.ref g] m (fun r m' => r = some (.int (nI (dryS (gI m (g + 1)) (gI m (g + 2)) 40))) ∧ m' = m) := by
  refine ⟨plmX1_cellsWithoutFog, nle rfl, ?_⟩
  have key : ∀ i, i ≤ 40 → Go mX1_cellsWithoutFog (fun r m' => r = some (.int (nI (dryS (gI m (g + 1)) (gI m (g + 2)) 40))) ∧ m' = m) 4 [some (.ref g), some (.int (nI (dryS (gI m (g + 1)) (gI m (g + 2)) i))), some (.int (nI i))] [] (m) 0 0 := by
    refine loop_up 40 ?_ ?_
    · skip
      refine go_iload_n (q := 2) (i := 2) rfl rfl dX1_cellsWithoutFog_4 ?_
      refine go_bipush (v := nI 40) (by decide) dX1_cellsWithoutFog_5 ?_
      refine gn_ge (by omega) (by omega) (tgt := 38) dX1_cellsWithoutFog_7 (by decide) (fun h7 => ?_) (fun h7 => by exfalso; omega)
      refine go_iload_n (q := 1) (i := 1) rfl rfl dX1_cellsWithoutFog_38 ?_
      refine go_iret rfl ⟨Nat.zero_le _, Nat.zero_le _⟩ dX1_cellsWithoutFog_39 ?_
      exact ⟨rfl, rfl⟩
    · intro i hi ih
      refine go_iload_n (q := 2) (i := 2) rfl rfl dX1_cellsWithoutFog_4 ?_
      refine go_bipush (v := nI 40) (by decide) dX1_cellsWithoutFog_5 ?_
      refine gn_ge (by omega) (by omega) (tgt := 38) dX1_cellsWithoutFog_7 (by decide) (fun h7 => by exfalso; omega) (fun h7 => ?_)
      refine go_aload_n (q := 0) (i := 0) rfl rfl dX1_cellsWithoutFog_10 ?_
      refine go_getR lf1_15 rfl hg.o hg.r2 dX1_cellsWithoutFog_11 ?_
      refine go_iload_n (q := 2) (i := 2) rfl rfl dX1_cellsWithoutFog_14 ?_
      refine go_iald (j := i) hg.i2 (by omega) (by first | decide | omega) rfl dX1_cellsWithoutFog_15 ?_
      refine go_iconst (v := -1) (by decide) dX1_cellsWithoutFog_16 ?_
      refine go_icmp_eq (tgt := 32) dX1_cellsWithoutFog_17 (by decide) (fun h17 => ?_) (fun h17 => ?_)
      · skip
        refine gn_inc (i := 2) (a := i) (q := 1) rfl dX1_cellsWithoutFog_32 (nle rfl) rfl ?_
        refine go_goto (tgt := 4) dX1_cellsWithoutFog_35 (by decide) ?_
        rw [show dryS (gI m (g + 1)) (gI m (g + 2)) (i + 1) = dryS (gI m (g + 1)) (gI m (g + 2)) i from if_pos h17] at ih
        exact ih
      · skip
        refine go_aload_n (q := 0) (i := 0) rfl rfl dX1_cellsWithoutFog_20 ?_
        refine go_getR lf1_9 rfl hg.o hg.r1 dX1_cellsWithoutFog_21 ?_
        refine go_iload_n (q := 2) (i := 2) rfl rfl dX1_cellsWithoutFog_24 ?_
        refine go_iald (j := i) hg.i1 (by omega) (by first | decide | omega) rfl dX1_cellsWithoutFog_25 ?_
        refine go_if_ne (tgt := 32) dX1_cellsWithoutFog_26 (by decide) (fun h26 => ?_) (fun h26 => ?_)
        · skip
          refine gn_inc (i := 2) (a := i) (q := 1) rfl dX1_cellsWithoutFog_32 (nle rfl) rfl ?_
          refine go_goto (tgt := 4) dX1_cellsWithoutFog_35 (by decide) ?_
          rw [show dryS (gI m (g + 1)) (gI m (g + 2)) (i + 1) = dryS (gI m (g + 1)) (gI m (g + 2)) i from (if_neg h17).trans (if_neg h26)] at ih
          exact ih
        · skip
          refine gn_inc (i := 1) (a := dryS (gI m (g + 1)) (gI m (g + 2)) i) (q := 1) rfl dX1_cellsWithoutFog_29 (nle rfl) rfl ?_
          refine gn_inc (i := 2) (a := i) (q := 1) rfl dX1_cellsWithoutFog_32 (nle rfl) rfl ?_
          refine go_goto (tgt := 4) dX1_cellsWithoutFog_35 (by decide) ?_
          rw [show dryS (gI m (g + 1)) (gI m (g + 2)) (i + 1) = dryS (gI m (g + 1)) (gI m (g + 2)) i + 1 from (if_neg h17).trans (if_pos h26)] at ih
          exact ih
  have k0 := key 0 (Nat.zero_le _)
  refine go_iconst (v := nI 0) (by decide) dX1_cellsWithoutFog_0 ?_
  refine go_istore_n (q := 1) (i := 1) rfl dX1_cellsWithoutFog_1 (nle rfl) (nle rfl) ?_
  refine go_iconst (v := nI 0) (by decide) dX1_cellsWithoutFog_2 ?_
  refine go_istore_n (q := 2) (i := 2) rfl dX1_cellsWithoutFog_3 (nle rfl) (nle rfl) ?_
  exact k0
set_option maxRecDepth 100000 in
set_option maxHeartbeats 4000000 in
theorem ev_thickest {m : Me} {g : Nat} (hg : Wf1 m.1 (gR m) g) : Ev mX1_thickestCell [.ref g] m (fun r m' => r = some (.int (tkS (gI m (g + 1)) (gI m (g + 2)) 40).1) ∧ m' = m) := by
  refine ⟨plmX1_thickestCell, nle rfl, ?_⟩
  have key : ∀ i, i ≤ 40 → Go mX1_thickestCell (fun r m' => r = some (.int (tkS (gI m (g + 1)) (gI m (g + 2)) 40).1) ∧ m' = m) 6 [some (.ref g), some (.int (tkS (gI m (g + 1)) (gI m (g + 2)) i).1), some (.int (tkS (gI m (g + 1)) (gI m (g + 2)) i).2), some (.int (nI i))] [] (m) 0 0 := by
    refine loop_up 40 ?_ ?_
    · skip
      refine go_iload_n (q := 3) (i := 3) rfl rfl dX1_thickestCell_6 ?_
      refine go_bipush (v := nI 40) (by decide) dX1_thickestCell_7 ?_
      refine gn_ge (by omega) (by omega) (tgt := 47) dX1_thickestCell_9 (by decide) (fun h9 => ?_) (fun h9 => by exfalso; omega)
      refine go_iload_n (q := 1) (i := 1) rfl rfl dX1_thickestCell_47 ?_
      refine go_iret rfl ⟨Nat.zero_le _, Nat.zero_le _⟩ dX1_thickestCell_48 ?_
      exact ⟨rfl, rfl⟩
    · intro i hi ih
      refine go_iload_n (q := 3) (i := 3) rfl rfl dX1_thickestCell_6 ?_
      refine go_bipush (v := nI 40) (by decide) dX1_thickestCell_7 ?_
      refine gn_ge (by omega) (by omega) (tgt := 47) dX1_thickestCell_9 (by decide) (fun h9 => by exfalso; omega) (fun h9 => ?_)
      refine go_aload_n (q := 0) (i := 0) rfl rfl dX1_thickestCell_12 ?_
      refine go_getR lf1_15 rfl hg.o hg.r2 dX1_thickestCell_13 ?_
      refine go_iload_n (q := 3) (i := 3) rfl rfl dX1_thickestCell_16 ?_
      refine go_iald (j := i) hg.i2 (by omega) (by first | decide | omega) rfl dX1_thickestCell_17 ?_
      refine go_iconst (v := -1) (by decide) dX1_thickestCell_18 ?_
      refine go_icmp_eq (tgt := 41) dX1_thickestCell_19 (by decide) (fun h19 => ?_) (fun h19 => ?_)
      · skip
        refine gn_inc (i := 3) (a := i) (q := 1) rfl dX1_thickestCell_41 (nle rfl) rfl ?_
        refine go_goto (tgt := 6) dX1_thickestCell_44 (by decide) ?_
        rw [show tkS (gI m (g + 1)) (gI m (g + 2)) (i + 1) = tkS (gI m (g + 1)) (gI m (g + 2)) i from if_pos h19] at ih
        exact ih
      · skip
        refine go_aload_n (q := 0) (i := 0) rfl rfl dX1_thickestCell_22 ?_
        refine go_getR lf1_9 rfl hg.o hg.r1 dX1_thickestCell_23 ?_
        refine go_iload_n (q := 3) (i := 3) rfl rfl dX1_thickestCell_26 ?_
        refine go_iald (j := i) hg.i1 (by omega) (by first | decide | omega) rfl dX1_thickestCell_27 ?_
        refine go_iload_n (q := 2) (i := 2) rfl rfl dX1_thickestCell_28 ?_
        refine go_icmp_le (tgt := 41) dX1_thickestCell_29 (by decide) (fun h29 => ?_) (fun h29 => ?_)
        · skip
          refine gn_inc (i := 3) (a := i) (q := 1) rfl dX1_thickestCell_41 (nle rfl) rfl ?_
          refine go_goto (tgt := 6) dX1_thickestCell_44 (by decide) ?_
          rw [show tkS (gI m (g + 1)) (gI m (g + 2)) (i + 1) = tkS (gI m (g + 1)) (gI m (g + 2)) i from (if_neg h19).trans (if_pos h29)] at ih
          exact ih
        · skip
          refine go_iload_n (q := 3) (i := 3) rfl rfl dX1_thickestCell_32 ?_
          refine go_istore_n (q := 1) (i := 1) rfl dX1_thickestCell_33 (nle rfl) (nle rfl) ?_
          refine go_aload_n (q := 0) (i := 0) rfl rfl dX1_thickestCell_34 ?_
          refine go_getR lf1_9 rfl hg.o hg.r1 dX1_thickestCell_35 ?_
          refine go_iload_n (q := 3) (i := 3) rfl rfl dX1_thickestCell_38 ?_
          refine go_iald (j := i) hg.i1 (by omega) (by first | decide | omega) rfl dX1_thickestCell_39 ?_
          refine go_istore_n (q := 2) (i := 2) rfl dX1_thickestCell_40 (nle rfl) (nle rfl) ?_
          refine gn_inc (i := 3) (a := i) (q := 1) rfl dX1_thickestCell_41 (nle rfl) rfl ?_
          refine go_goto (tgt := 6) dX1_thickestCell_44 (by decide) ?_
          rw [show tkS (gI m (g + 1)) (gI m (g + 2)) (i + 1) = (nI i, (gI m (g + 1)) i) from (if_neg h19).trans (if_neg h29)] at ih
          exact ih
  have k0 := key 0 (Nat.zero_le _)
  refine go_iconst (v := -1) (by decide) dX1_thickestCell_0 ?_
  refine go_istore_n (q := 1) (i := 1) rfl dX1_thickestCell_1 (nle rfl) (nle rfl) ?_
  refine go_iconst (v := -1) (by decide) dX1_thickestCell_2 ?_
  refine go_istore_n (q := 2) (i := 2) rfl dX1_thickestCell_3 (nle rfl) (nle rfl) ?_
  refine go_iconst (v := nI 0) (by decide) dX1_thickestCell_4 ?_
  refine go_istore_n (q := 3) (i := 3) rfl dX1_thickestCell_5 (nle rfl) (nle rfl) ?_
  exact k0
set_option maxRecDepth 100000 in
set_option maxHeartbeats 4000000 in
theorem ev_asThick {m : Me} {g : Nat} (hg : Wf1 m.1 (gR m) g) {th : Int32} : Ev mX1_asThick [.ref g, .int th] m (fun r m' => r = some (.long (atS (gI m (g + 1)) (gI m (g + 2)) th 40)) ∧ m' = m) := by
  refine ⟨plmX1_asThick, nle rfl, ?_⟩
  have key : ∀ i, i ≤ 40 → Go mX1_asThick (fun r m' => r = some (.long (atS (gI m (g + 1)) (gI m (g + 2)) th 40)) ∧ m' = m) 5 [some (.ref g), some (.int th), some (.long (atS (gI m (g + 1)) (gI m (g + 2)) th i)), none, some (.int (nI i))] [] (m) 0 0 := by
    refine loop_up 40 ?_ ?_
    · skip
      refine go_iload (i := 4) rfl dX1_asThick_5 ?_
      refine go_bipush (v := nI 40) (by decide) dX1_asThick_7 ?_
      refine gn_ge (by omega) (by omega) (tgt := 47) dX1_asThick_9 (by decide) (fun h9 => ?_) (fun h9 => by exfalso; omega)
      refine go_lload_n (q := 2) (i := 2) rfl rfl dX1_asThick_47 ?_
      refine go_lret rfl ⟨Nat.zero_le _, Nat.zero_le _⟩ dX1_asThick_48 ?_
      exact ⟨rfl, rfl⟩
    · intro i hi ih
      refine go_iload (i := 4) rfl dX1_asThick_5 ?_
      refine go_bipush (v := nI 40) (by decide) dX1_asThick_7 ?_
      refine gn_ge (by omega) (by omega) (tgt := 47) dX1_asThick_9 (by decide) (fun h9 => by exfalso; omega) (fun h9 => ?_)
      refine go_aload_n (q := 0) (i := 0) rfl rfl dX1_asThick_12 ?_
      refine go_getR lf1_15 rfl hg.o hg.r2 dX1_asThick_13 ?_
      refine go_iload (i := 4) rfl dX1_asThick_16 ?_
      refine go_iald (j := i) hg.i2 (by omega) (by first | decide | omega) rfl dX1_asThick_18 ?_
      refine go_iconst (v := -1) (by decide) dX1_asThick_19 ?_
      refine go_icmp_eq (tgt := 41) dX1_asThick_20 (by decide) (fun h20 => ?_) (fun h20 => ?_)
      · skip
        refine gn_inc (i := 4) (a := i) (q := 1) rfl dX1_asThick_41 (nle rfl) rfl ?_
        refine go_goto (tgt := 5) dX1_asThick_44 (by decide) ?_
        rw [show atS (gI m (g + 1)) (gI m (g + 2)) th (i + 1) = atS (gI m (g + 1)) (gI m (g + 2)) th i from if_pos h20] at ih
        exact ih
      · skip
        refine go_aload_n (q := 0) (i := 0) rfl rfl dX1_asThick_23 ?_
        refine go_getR lf1_9 rfl hg.o hg.r1 dX1_asThick_24 ?_
        refine go_iload (i := 4) rfl dX1_asThick_27 ?_
        refine go_iald (j := i) hg.i1 (by omega) (by first | decide | omega) rfl dX1_asThick_29 ?_
        refine go_iload_n (q := 1) (i := 1) rfl rfl dX1_asThick_30 ?_
        refine go_icmp_lt (tgt := 41) dX1_asThick_31 (by decide) (fun h31 => ?_) (fun h31 => ?_)
        · skip
          refine gn_inc (i := 4) (a := i) (q := 1) rfl dX1_asThick_41 (nle rfl) rfl ?_
          refine go_goto (tgt := 5) dX1_asThick_44 (by decide) ?_
          rw [show atS (gI m (g + 1)) (gI m (g + 2)) th (i + 1) = atS (gI m (g + 1)) (gI m (g + 2)) th i from (if_neg h20).trans (if_pos h31)] at ih
          exact ih
        · skip
          refine go_lload_n (q := 2) (i := 2) rfl rfl dX1_asThick_34 ?_
          refine go_lconst (v := 1) (by decide) dX1_asThick_35 ?_
          refine go_iload (i := 4) rfl dX1_asThick_36 ?_
          refine go_lshl dX1_asThick_38 ?_
          refine go_lor dX1_asThick_39 ?_
          refine go_lstore_n (q := 2) (i := 2) rfl dX1_asThick_40 (nle rfl) (nle rfl) ?_
          refine gn_inc (i := 4) (a := i) (q := 1) rfl dX1_asThick_41 (nle rfl) rfl ?_
          refine go_goto (tgt := 5) dX1_asThick_44 (by decide) ?_
          rw [show atS (gI m (g + 1)) (gI m (g + 2)) th (i + 1) = atS (gI m (g + 1)) (gI m (g + 2)) th i ||| ((1 : Int64) <<< ((nI i).toInt64 &&& 63)) from (if_neg h20).trans (if_neg h31)] at ih
          exact ih
  have k0 := key 0 (Nat.zero_le _)
  refine go_lconst (v := 0) (by decide) dX1_asThick_0 ?_
  refine go_lstore_n (q := 2) (i := 2) rfl dX1_asThick_1 (nle rfl) (nle rfl) ?_
  refine go_iconst (v := nI 0) (by decide) dX1_asThick_2 ?_
  refine go_istore (i := 4) dX1_asThick_3 (nle rfl) (nle rfl) ?_
  exact k0
theorem ctS_le (w : Nat → Int32) (h : Int32) : ∀ i, ctS w h i ≤ i
  | 0 => Nat.le_refl 0
  | i + 1 => by
    have := ctS_le w h i
    rw [ctS]
    split <;> omega
/-- all of a holding's cells are as thick, and there is one -/
def hbB (f w : Nat → Int32) (h th : Int32) : Nat → Bool
  | 0 => true
  | i + 1 => hbB f w h th i && (decide (¬ w i = h) || decide (th ≤ f i))
theorem hbB_f {f w : Nat → Int32} {h th : Int32} {i : Nat} (hi : hbB f w h th i = false) : ∀ n, i ≤ n → hbB f w h th n = false := by
  intro n
  induction n with
  | zero => intro q; have : i = 0 := by omega
            subst this; exact hi
  | succ n ih =>
    intro q
    by_cases e : i = n + 1
    · subst e; exact hi
    · rw [hbB, ih (by omega)]; rfl
def hdS (f w : Nat → Int32) (h th : Int32) : Int32 := if hbB f w h th 40 = true then (if 0 < ctS w h 40 then nI 1 else nI 0) else nI 0
set_option maxRecDepth 100000 in
set_option maxHeartbeats 4000000 in
theorem ev_isHidden {m : Me} {g : Nat} (hg : Wf1 m.1 (gR m) g) {h th : Int32} : Ev mX1_isHidden [.ref g, .int h, .int th] m (fun r m' => r = some (.int (hdS (gI m (g + 1)) (gI m (g + 2)) h th)) ∧ m' = m) := by
  refine ⟨plmX1_isHidden, nle rfl, ?_⟩
  have key : ∀ i, i ≤ 40 → hbB (gI m (g + 1)) (gI m (g + 2)) h th i = true → Go mX1_isHidden (fun r m' => r = some (.int (hdS (gI m (g + 1)) (gI m (g + 2)) h th)) ∧ m' = m) 5 [some (.ref g), some (.int h), some (.int th), some (.int (nI (ctS (gI m (g + 2)) h i))), some (.int (nI i))] [] (m) 0 0 := by
    refine loop_up 40 ?_ ?_
    · skip
      intro hall
      have hb : ctS (gI m (g + 2)) h 40 < 2 ^ 31 := Nat.lt_of_le_of_lt (ctS_le _ _ 40) (by decide)
      refine go_iload (i := 4) rfl dX1_isHidden_5 ?_
      refine go_bipush (v := nI 40) (by decide) dX1_isHidden_7 ?_
      refine gn_ge (by omega) (by omega) (tgt := 45) dX1_isHidden_9 (by decide) (fun h9 => ?_) (fun h9 => by exfalso; omega)
      refine go_iload_n (q := 3) (i := 3) rfl rfl dX1_isHidden_45 ?_
      refine gz_le (by omega) (tgt := 53) dX1_isHidden_46 (by decide) (fun h46 => ?_) (fun h46 => ?_)
      · skip
        refine go_iconst (v := nI 0) (by decide) dX1_isHidden_53 ?_
        refine go_zret rfl (by decide) ⟨Nat.zero_le _, Nat.zero_le _⟩ dX1_isHidden_54 ?_
        refine ⟨?_, rfl⟩
        unfold hdS
        rw [if_pos hall]
        first | rw [if_pos (by omega)] | rw [if_neg (by omega)]
      · skip
        refine go_iconst (v := nI 1) (by decide) dX1_isHidden_49 ?_
        refine go_goto (tgt := 54) dX1_isHidden_50 (by decide) ?_
        refine go_zret rfl (by decide) ⟨Nat.zero_le _, Nat.zero_le _⟩ dX1_isHidden_54 ?_
        refine ⟨?_, rfl⟩
        unfold hdS
        rw [if_pos hall]
        first | rw [if_pos (by omega)] | rw [if_neg (by omega)]
    · intro i hi ih hall
      refine go_iload (i := 4) rfl dX1_isHidden_5 ?_
      refine go_bipush (v := nI 40) (by decide) dX1_isHidden_7 ?_
      refine gn_ge (by omega) (by omega) (tgt := 45) dX1_isHidden_9 (by decide) (fun h9 => by exfalso; omega) (fun h9 => ?_)
      refine go_aload_n (q := 0) (i := 0) rfl rfl dX1_isHidden_12 ?_
      refine go_getR lf1_15 rfl hg.o hg.r2 dX1_isHidden_13 ?_
      refine go_iload (i := 4) rfl dX1_isHidden_16 ?_
      refine go_iald (j := i) hg.i2 (by omega) (by first | decide | omega) rfl dX1_isHidden_18 ?_
      refine go_iload_n (q := 1) (i := 1) rfl rfl dX1_isHidden_19 ?_
      refine go_icmp_ne (tgt := 39) dX1_isHidden_20 (by decide) (fun h20 => ?_) (fun h20 => ?_)
      · skip
        refine gn_inc (i := 4) (a := i) (q := 1) rfl dX1_isHidden_39 (nle rfl) rfl ?_
        refine go_goto (tgt := 5) dX1_isHidden_42 (by decide) ?_
        rw [show ctS (gI m (g + 2)) h (i + 1) = ctS (gI m (g + 2)) h i from if_neg h20] at ih
        exact ih (by simp only [hbB, hall, h20, Bool.true_and, not_false_eq_true, decide_true, Bool.true_or])
      · skip
        refine gn_inc (i := 3) (a := ctS (gI m (g + 2)) h i) (q := 1) rfl dX1_isHidden_23 (nle rfl) rfl ?_
        refine go_aload_n (q := 0) (i := 0) rfl rfl dX1_isHidden_26 ?_
        refine go_getR lf1_9 rfl hg.o hg.r1 dX1_isHidden_27 ?_
        refine go_iload (i := 4) rfl dX1_isHidden_30 ?_
        refine go_iald (j := i) hg.i1 (by omega) (by first | decide | omega) rfl dX1_isHidden_32 ?_
        refine go_iload_n (q := 2) (i := 2) rfl rfl dX1_isHidden_33 ?_
        refine go_icmp_ge (tgt := 39) dX1_isHidden_34 (by decide) (fun h34 => ?_) (fun h34 => ?_)
        · skip
          refine gn_inc (i := 4) (a := i) (q := 1) rfl dX1_isHidden_39 (nle rfl) rfl ?_
          refine go_goto (tgt := 5) dX1_isHidden_42 (by decide) ?_
          rw [show ctS (gI m (g + 2)) h (i + 1) = ctS (gI m (g + 2)) h i + 1 from if_pos h20] at ih
          exact ih (by simp only [hbB, hall, h34, Bool.true_and, decide_true, Bool.or_true])
        · skip
          refine go_iconst (v := nI 0) (by decide) dX1_isHidden_37 ?_
          refine go_zret rfl (by decide) ⟨Nat.zero_le _, Nat.zero_le _⟩ dX1_isHidden_38 ?_
          refine ⟨?_, rfl⟩
          unfold hdS
          rw [hbB_f (i := i + 1) (by simp only [hbB, hall, h20, Bool.true_and, Bool.or_eq_false_iff, decide_eq_false_iff_not, not_true_eq_false, decide_false, Bool.false_or, Classical.not_not, h34, not_false_eq_true]) 40 (by omega)]
          rfl
  have k0 := key 0 (Nat.zero_le _) rfl
  refine go_iconst (v := nI 0) (by decide) dX1_isHidden_0 ?_
  refine go_istore_n (q := 3) (i := 3) rfl dX1_isHidden_1 (nle rfl) (nle rfl) ?_
  refine go_iconst (v := nI 0) (by decide) dX1_isHidden_2 ?_
  refine go_istore (i := 4) dX1_isHidden_3 (nle rfl) (nle rfl) ?_
  exact k0
