abbrev lvS (P : Pl) (k : Nat) (tc th tf : Nat → Nat) (s : Nat) : Prop := Lf P k tc th tf s 25
theorem cnt_0 {p : Nat → Prop} : ∀ n, cnt p n = 0 → ∀ s, s < n → ¬ p s
  | 0, _, s, h => absurd h (Nat.not_lt_zero s)
  | n + 1, q, s, h => by
    by_cases a : p n
    · rw [cnt_t a] at q; omega
    · rw [cnt_f a] at q
      by_cases e : s = n
      · rw [e]; exact a
      · exact cnt_0 n q s (by omega)
theorem cnt_one {p : Nat → Prop} : ∀ n, cnt p n = 1 → ∀ s s', s < n → s' < n → p s → p s' → s = s'
  | 0, q, _, _, _, _, _, _ => absurd q (show ¬ 0 = 1 by decide)
  | n + 1, q, s, s', h, h', a, a' => by
    by_cases z : p n
    · rw [cnt_t z] at q
      have e := cnt_0 (p := p) n (by omega)
      have e1 : s = n := Classical.byContradiction (fun y => e s (by omega) a)
      have e2 : s' = n := Classical.byContradiction (fun y => e s' (by omega) a')
      rw [e1, e2]
    · rw [cnt_f z] at q
      have e1 : ¬ s = n := fun y => z (y ▸ a)
      have e2 : ¬ s' = n := fun y => z (y ▸ a')
      exact cnt_one n q s s' (by omega) (by omega) a a'
theorem cnt_ex {p : Nat → Prop} : ∀ n, ¬ cnt p n = 0 → ∃ s, s < n ∧ p s
  | 0, q => absurd rfl q
  | n + 1, q => by
    by_cases a : p n
    · exact ⟨n, by omega, a⟩
    · rw [cnt_f a] at q
      obtain ⟨s, h1, h2⟩ := cnt_ex n q
      exact ⟨s, by omega, h2⟩
def fuS (s : Nat) : Int32 := if s = 40 then nI 100 else nI (nm s)
def SuR (P : Pl) (t : Nat) (tc th tf : Nat → Nat) (v o : Int32) : Prop := (inS v (nI 0) (nI t) = nI 0 ∧ o = -1) ∨ ∃ k, k ≤ t ∧ v = nI k ∧ ((¬ cnt (lvS P k tc th tf) 41 = 1 ∧ o = -2) ∨ (cnt (lvS P k tc th tf) 41 = 1 ∧ ∃ s, s < 41 ∧ lvS P k tc th tf s ∧ o = fuS s))
theorem in_no {v : Int32} {t k : Nat} (ht : t ≤ 20) (hk : k ≤ t) (h : inS v (nI 0) (nI t) = nI 0) : ¬ v = nI k := fun e => by
  rw [e, in_yes (nI_ge0 (by omega)) (by rw [nI_ltI (by omega) (by omega)]; omega)] at h
  exact absurd h (by decide)
theorem SuR_u {P : Pl} {t : Nat} {tc th tf : Nat → Nat} {v o o' : Int32} (ht : t ≤ 20) (h : SuR P t tc th tf v o) (h' : SuR P t tc th tf v o') : o = o' := by
  rcases h with ⟨a, e⟩ | ⟨k, hk, ek, b⟩
  · rcases h' with ⟨a', e'⟩ | ⟨k', hk', ek', b'⟩
    · rw [e, e']
    · exact absurd ek' (in_no ht hk' a)
  · rcases h' with ⟨a', e'⟩ | ⟨k', hk', ek', b'⟩
    · exact absurd ek (in_no ht hk a')
    · have q : k = k' := (nI_eq (by omega) (by omega)).mp (ek.symm.trans ek')
      subst q
      rcases b with ⟨b1, e⟩ | ⟨b1, s, hs, ls, e⟩
      · rcases b' with ⟨c1, e'⟩ | ⟨c1, _⟩
        · rw [e, e']
        · exact absurd c1 b1
      · rcases b' with ⟨c1, e'⟩ | ⟨c1, s', hs', ls', e'⟩
        · exact absurd b1 c1
        · rw [e, e', cnt_one 41 b1 s s' hs hs' ls ls']
/-- how many suspects tell so much fog there -/
noncomputable def alK (P : Pl) (k n : Nat) (tc th tf : Nat → Nat) (c f i : Nat) : Nat := cnt (fun s => lvS P k tc th tf s ∧ lkR P s n c = nI f) i
def MxA (g : Nat → Nat) (w : Nat) : Prop := (∀ f, f < 100 → g f ≤ w) ∧ (w = 0 ∨ ∃ f, f < 100 ∧ g f = w)
theorem MxA_u {g : Nat → Nat} {w w' : Nat} (h : MxA g w) (h' : MxA g w') : w = w' := by
  rcases h.2 with e | ⟨f, hf, e⟩
  · rcases h'.2 with e' | ⟨f', hf', e'⟩
    · omega
    · have := h.1 f' hf'; omega
  · have := h'.1 f hf
    rcases h'.2 with e' | ⟨f', hf', e'⟩
    · omega
    · have := h.1 f' hf'; omega
def Bst (P : Pl) (g : Nat → Nat → Nat) (N b : Nat) : Prop := b < N ∧ ld P b ∧ ∃ w, MxA (g b) w ∧ ∀ c, c < N → ld P c → ∀ w', MxA (g c) w' → w ≤ w' ∧ (c < b → w < w')
theorem Bst_u {P : Pl} {g : Nat → Nat → Nat} {N b b' : Nat} (h : Bst P g N b) (h' : Bst P g N b') : b = b' := by
  obtain ⟨h1, h2, w, h3, h4⟩ := h
  obtain ⟨k1, k2, w', k3, k4⟩ := h'
  have a := h4 b' k1 k2 w' k3
  have c := k4 b h1 h2 w h3
  rcases (show b = b' ∨ b < b' ∨ b' < b by omega) with e | e | e
  · exact e
  · have := c.2 e; omega
  · have := a.2 e; omega
def AsR (P : Pl) (t : Nat) (tc th tf : Nat → Nat) (v x o : Int32) : Prop := ((∀ k n, k ≤ t → n ≤ 24 → ¬ (v = nI k ∧ x = nI n)) ∧ o = -1) ∨ ∃ k n, k ≤ t ∧ n ≤ 24 ∧ v = nI k ∧ x = nI n ∧ ((cnt (lvS P k tc th tf) 41 = 0 ∧ o = -2) ∨ (¬ cnt (lvS P k tc th tf) 41 = 0 ∧ (((∀ c, c < 40 → ¬ ld P c) ∧ o = -2) ∨ ∃ b, Bst P (fun c f => alK P k n tc th tf c f 41) 40 b ∧ o = nI (nm b))))
theorem AsR_u {P : Pl} {t : Nat} {tc th tf : Nat → Nat} {v x o o' : Int32} (ht : t ≤ 20) (h : AsR P t tc th tf v x o) (h' : AsR P t tc th tf v x o') : o = o' := by
  rcases h with ⟨a, e⟩ | ⟨k, n, hk, hn, ek, en, b⟩
  · rcases h' with ⟨a', e'⟩ | ⟨k', n', hk', hn', ek', en', b'⟩
    · rw [e, e']
    · exact absurd ⟨ek', en'⟩ (a k' n' hk' hn')
  · rcases h' with ⟨a', e'⟩ | ⟨k', n', hk', hn', ek', en', b'⟩
    · exact absurd ⟨ek, en⟩ (a' k n hk hn)
    · have q : k = k' := (nI_eq (by omega) (by omega)).mp (ek.symm.trans ek')
      have q2 : n = n' := (nI_eq (by omega) (by omega)).mp (en.symm.trans en')
      subst q; subst q2
      rcases b with ⟨b1, e⟩ | ⟨b1, b2⟩
      · rcases b' with ⟨c1, e'⟩ | ⟨c1, _⟩
        · rw [e, e']
        · exact absurd b1 c1
      · rcases b' with ⟨c1, e'⟩ | ⟨c1, c2⟩
        · exact absurd c1 b1
        · rcases b2 with ⟨b3, e⟩ | ⟨b, b3, e⟩
          · rcases c2 with ⟨c3, e'⟩ | ⟨b', c3, e'⟩
            · rw [e, e']
            · exact absurd c3.2.1 (b3 b' c3.1)
          · rcases c2 with ⟨c3, e'⟩ | ⟨b', c3, e'⟩
            · exact absurd b3.2.1 (c3 b b3.1)
            · rw [e, e', Bst_u b3 c3]
theorem mx_g {w g : Nat} {a : Nat → Nat} {f0 : Nat} (h : MxA a w) (hf : f0 < 100) : MxA (fun f => if f = f0 then a f + 1 else a f) (if w < a f0 + 1 then a f0 + 1 else w) := by
  refine ⟨fun f h1 => ?_, ?_⟩
  · have := h.1 f h1
    have := h.1 f0 hf
    show (if f = f0 then a f + 1 else a f) ≤ _
    by_cases e : f = f0
    · rw [if_pos e, e]; split <;> omega
    · rw [if_neg e]; split <;> omega
  · by_cases q : w < a f0 + 1
    · rw [if_pos q]
      exact Or.inr ⟨f0, hf, by show (if f0 = f0 then a f0 + 1 else a f0) = _; rw [if_pos rfl]⟩
    · rw [if_neg q]
      rcases h.2 with e | ⟨f, h1, e⟩
      · omega
      · refine Or.inr ⟨f, h1, ?_⟩
        show (if f = f0 then a f + 1 else a f) = _
        by_cases z : f = f0
        · rw [z] at e; omega
        · rw [if_neg z]; exact e
theorem MxA_c {a b : Nat → Nat} {w : Nat} (h : ∀ f, f < 100 → a f = b f) (k : MxA a w) : MxA b w :=
  ⟨fun f hf => by rw [← h f hf]; exact k.1 f hf, k.2.imp id (fun ⟨f, hf, e⟩ => ⟨f, hf, by rw [← h f hf]; exact e⟩)⟩
set_option maxRecDepth 100000 in
set_option maxHeartbeats 8000000 in
theorem ev_firstLeft {m : Me} {p : Nat → Prop} (hh : Wf4 m.1 (gR m) 211) (hl : ∀ s, s ≤ 40 → gI m 221 s = pit (p s) (nI 1) (nI 0)) (he : ∃ s, s < 41 ∧ p s) : Ev mX4_firstLeft [.ref 211] m (fun o m' => m' = m ∧ ∃ s, s < 41 ∧ p s ∧ o = some (.int (nI s))) := by
  refine ⟨plmX4_firstLeft, nle rfl, ?_⟩
  have key : ∀ i, i ≤ 40 → (∀ j, j < i → ¬ p j) → Go mX4_firstLeft (fun o m' => m' = m ∧ ∃ s, s < 41 ∧ p s ∧ o = some (.int (nI s))) 2 [some (.ref 211), some (.int (nI i))] [] m 0 0 := by
    refine loop_up 40 ?_ ?_
    · intro hn
      refine go_iload_n (q := 1) (i := 1) rfl rfl dX4_firstLeft_2 ?_
      refine go_bipush (v := nI 40) (by decide) dX4_firstLeft_3 ?_
      refine gn_ge (by omega) (by omega) (tgt := 25) dX4_firstLeft_5 (by decide) (fun h5 => ?_) (fun h5 => by exfalso; omega)
      refine go_bipush (v := nI 40) (by decide) dX4_firstLeft_25 ?_
      refine go_iret rfl ⟨Nat.zero_le _, Nat.zero_le _⟩ dX4_firstLeft_27 ?_
      obtain ⟨s, hs, ps⟩ := he
      have : s = 40 := Classical.byContradiction (fun z => hn s (by omega) ps)
      subst this
      exact ⟨rfl, 40, by omega, ps, rfl⟩
    · intro i hi ih hn
      refine go_iload_n (q := 1) (i := 1) rfl rfl dX4_firstLeft_2 ?_
      refine go_bipush (v := nI 40) (by decide) dX4_firstLeft_3 ?_
      refine gn_ge (by omega) (by omega) (tgt := 25) dX4_firstLeft_5 (by decide) (fun h5 => by exfalso; omega) (fun h5 => ?_)
      refine go_aload_n (q := 0) (i := 0) rfl rfl dX4_firstLeft_8 ?_
      refine go_getR lf4_28 rfl hh.o hh.r5 dX4_firstLeft_9 ?_
      refine go_iload_n (q := 1) (i := 1) rfl rfl dX4_firstLeft_12 ?_
      refine go_zald (j := i) hh.i5 (by omega) (by first | decide | omega) rfl dX4_firstLeft_13 ?_
      rw [hl i (by omega)]
      refine go_if_eq (tgt := 19) dX4_firstLeft_14 (by decide) (fun h14 => ?_) (fun h14 => ?_)
      · skip
        refine gn_inc (i := 1) (a := i) (q := 1) rfl dX4_firstLeft_19 (nle rfl) rfl ?_
        refine go_goto (tgt := 2) dX4_firstLeft_22 (by decide) ?_
        refine ih (fun j hj => ?_)
        by_cases e : j = i
        · rw [e]; exact pz.mp h14
        · exact hn j (by omega)
      · skip
        refine go_iload_n (q := 1) (i := 1) rfl rfl dX4_firstLeft_17 ?_
        refine go_iret rfl ⟨Nat.zero_le _, Nat.zero_le _⟩ dX4_firstLeft_18 ?_
        exact ⟨rfl, i, by omega, pnz h14, rfl⟩
  refine go_iconst (v := nI 0) (by decide) dX4_firstLeft_0 ?_
  refine go_istore_n (q := 1) (i := 1) rfl dX4_firstLeft_1 (nle rfl) (nle rfl) ?_
  exact key 0 (Nat.zero_le _) (fun j h => absurd h (Nat.not_lt_zero j))
set_option maxRecDepth 100000 in
set_option maxHeartbeats 4000000 in
theorem ev_knows {m : Me} {t : Nat} {v : Int32} (hh : Wf4 m.1 (gR m) 211) (h3 : gI m 211 3 = nI t) : Ev mX4_knows [.ref 211, .int v] m (fun o m' => o = some (.int (inS v (nI 0) (nI t))) ∧ m' = m) := by
  refine ⟨plmX4_knows, nle rfl, ?_⟩
  refine go_iload_n (q := 1) (i := 1) rfl rfl dX4_knows_0 ?_
  refine go_if_lt (tgt := 16) dX4_knows_1 (by decide) (fun h1 => ?_) (fun h1 => ?_)
  · skip
    refine go_iconst (v := nI 0) (by decide) dX4_knows_16 ?_
    refine go_zret rfl (by decide) ⟨Nat.zero_le _, Nat.zero_le _⟩ dX4_knows_17 ?_
    refine ⟨?_, rfl⟩
    unfold inS
    rw [if_pos (by rw [nI_0]; exact h1)]
  · skip
    refine go_iload_n (q := 1) (i := 1) rfl rfl dX4_knows_4 ?_
    refine go_aload_n (q := 0) (i := 0) rfl rfl dX4_knows_5 ?_
    refine go_getI lf4_38 rfl hh.o dX4_knows_6 ?_
    rw [h3]
    refine go_icmp_gt (tgt := 16) dX4_knows_9 (by decide) (fun h9 => ?_) (fun h9 => ?_)
    · skip
      refine go_iconst (v := nI 0) (by decide) dX4_knows_16 ?_
      refine go_zret rfl (by decide) ⟨Nat.zero_le _, Nat.zero_le _⟩ dX4_knows_17 ?_
      refine ⟨?_, rfl⟩
      unfold inS
      rw [if_neg (by rw [nI_0]; exact h1), if_pos h9]
    · skip
      refine go_iconst (v := nI 1) (by decide) dX4_knows_12 ?_
      refine go_goto (tgt := 17) dX4_knows_13 (by decide) ?_
      refine go_zret rfl (by decide) ⟨Nat.zero_le _, Nat.zero_le _⟩ dX4_knows_17 ?_
      refine ⟨?_, rfl⟩
      unfold inS
      rw [if_neg (by rw [nI_0]; exact h1), if_neg h9]
set_option maxRecDepth 100000 in
set_option maxHeartbeats 8000000 in
theorem ev_mostAlike {m : Me} {c : Nat} {p : Nat → Prop} {R : Nat → Nat → Int32} (hh : Wf4 m.1 (gR m) 211) (hl : ∀ s, s ≤ 40 → gI m 221 s = pit (p s) (nI 1) (nI 0)) (hf : ∀ s, s ≤ 40 → p s → gI m 222 (s * 40 + c) = R s c) (hR : ∀ s, s ≤ 40 → ∃ v, v ≤ 99 ∧ R s c = nI v) (hc : c < 40) : Ev mX4_mostAlike [.ref 211, .int (nI c)] m (fun o m' => Ch (fun y => y = 223) m m' ∧ ∃ w, o = some (.int (nI w)) ∧ w ≤ 41 ∧ MxA (fun f => cnt (fun s => p s ∧ R s c = nI f) 41) w) := by
  refine ⟨plmX4_mostAlike, nle rfl, ?_⟩
  have hh0 := hh
  have key : ∀ i, i ≤ 41 → ∀ (mk : Me) (w : Nat), Ch (fun y => y = 223) m mk → (∀ f, f < 100 → gI mk 223 f = nI ((fun f => cnt (fun s => p s ∧ R s c = nI f) (i)) f)) → w ≤ i → MxA (fun f => cnt (fun s => p s ∧ R s c = nI f) (i)) w → ∀ x4 x5 : Option Value, Go mX4_mostAlike (fun o m' => Ch (fun y => y = 223) m m' ∧ ∃ w, o = some (.int (nI w)) ∧ w ≤ 41 ∧ MxA (fun f => cnt (fun s => p s ∧ R s c = nI f) 41) w) 12 [some (.ref 211), some (.int (nI c)), some (.int (nI w)), some (.int (nI i)), x4, x5] [] mk 0 0 := by
    refine loop_up 41 ?_ ?_
    · intro mk w ck ha hw hM x4 x5
      have hh := Ch.to (F := fun n R => Wf4 n R 211) ck hh0
      refine go_iload_n (q := 3) (i := 3) rfl rfl dX4_mostAlike_12 ?_
      refine go_bipush (v := nI 40) (by decide) dX4_mostAlike_13 ?_
      refine gn_gt (by omega) (by omega) (tgt := 91) dX4_mostAlike_15 (by decide) (fun h15 => ?_) (fun h15 => by exfalso; omega)
      refine go_iload_n (q := 2) (i := 2) rfl rfl dX4_mostAlike_91 ?_
      refine go_iret rfl ⟨Nat.zero_le _, Nat.zero_le _⟩ dX4_mostAlike_92 ?_
      exact ⟨ck, w, rfl, hw, hM⟩
    · intro i hi ih mk w ck ha hw hM x4 x5
      have hh := Ch.to (F := fun n R => Wf4 n R 211) ck hh0
      refine go_iload_n (q := 3) (i := 3) rfl rfl dX4_mostAlike_12 ?_
      refine go_bipush (v := nI 40) (by decide) dX4_mostAlike_13 ?_
      refine gn_gt (by omega) (by omega) (tgt := 91) dX4_mostAlike_15 (by decide) (fun h15 => by exfalso; omega) (fun h15 => ?_)
      refine go_iload_n (q := 3) (i := 3) rfl rfl dX4_mostAlike_18 ?_
      refine go_bipush (v := nI 40) (by decide) dX4_mostAlike_19 ?_
      refine gn_mul dX4_mostAlike_21 ?_
      refine go_iload_n (q := 1) (i := 1) rfl rfl dX4_mostAlike_22 ?_
      refine gn_add dX4_mostAlike_23 ?_
      refine go_istore (i := 4) dX4_mostAlike_24 (nle rfl) (nle rfl) ?_
      refine go_aload_n (q := 0) (i := 0) rfl rfl dX4_mostAlike_26 ?_
      refine go_getR lf4_28 rfl hh.o hh.r5 dX4_mostAlike_27 ?_
      refine go_iload_n (q := 3) (i := 3) rfl rfl dX4_mostAlike_30 ?_
      refine go_zald (j := i) hh.i5 (by omega) (by first | decide | omega) rfl dX4_mostAlike_31 ?_
      rw [ck.at (show ¬ _ by omega), hl i (by omega)]
      refine go_if_eq (tgt := 85) dX4_mostAlike_32 (by decide) (fun h32 => ?_) (fun h32 => ?_)
      · skip
        refine gn_inc (i := 3) (a := i) (q := 1) rfl dX4_mostAlike_85 (nle rfl) rfl ?_
        refine go_goto (tgt := 12) dX4_mostAlike_88 (by decide) ?_
        have hal : ∀ f, cnt (fun s => p s ∧ R s c = nI f) (i + 1) = cnt (fun s => p s ∧ R s c = nI f) i := fun f => cnt_f (p := fun s => p s ∧ R s c = nI f) (fun z => pz.mp h32 z.1)
        refine ih _ w ck (fun f hf => ?_) (by omega) (MxA_c (fun f _ => (hal f).symm) hM) _ _
        show _ = nI (cnt (fun s => p s ∧ R s c = nI f) (i + 1))
        rw [hal f]; exact ha f hf
      · skip
        refine go_iload (i := 4) rfl dX4_mostAlike_35 ?_
        refine gz_lt (by omega) (tgt := 85) dX4_mostAlike_37 (by decide) (fun h37 => by exfalso; omega) (fun h37 => ?_)
        refine go_iload (i := 4) rfl dX4_mostAlike_40 ?_
        refine go_sipush (v := nI 1640) (by decide) dX4_mostAlike_42 ?_
        refine gn_ge (by omega) (by omega) (tgt := 85) dX4_mostAlike_45 (by decide) (fun h45 => by exfalso; omega) (fun h45 => ?_)
        refine go_aload_n (q := 0) (i := 0) rfl rfl dX4_mostAlike_48 ?_
        refine go_getR lf4_32 rfl hh.o hh.r6 dX4_mostAlike_49 ?_
        refine go_iload (i := 4) rfl dX4_mostAlike_52 ?_
        refine go_iald (j := ((i * 40) + c)) hh.i6 (by omega) (by first | decide | omega) rfl dX4_mostAlike_54 ?_
        rw [ck.at (show ¬ _ by omega), hf i (by omega) (pnz h32)]
        refine go_bipush (v := nI 99) (by decide) dX4_mostAlike_55 ?_
        refine go_callS okmX11_within lmX4_86 ⟨nle rfl, nle rfl⟩ (ev_within) npmX11_within rfl (nle rfl) ⟨nle rfl, nle rfl⟩ dX4_mostAlike_57 ?_
        rintro _ mz ⟨rfl, hz⟩
        subst mz
        obtain ⟨v, hv9, hv⟩ := hR i (by omega)
        rw [hv, hl_wi (nI v) (by decide), hl_in hv9 (by decide)]
        have hal : ∀ f, f < 100 → cnt (fun s => p s ∧ R s c = nI f) (i + 1) = (if f = v then cnt (fun s => p s ∧ R s c = nI f) i + 1 else cnt (fun s => p s ∧ R s c = nI f) i) := fun f hf => by
          by_cases e : f = v
          · rw [if_pos e]
            exact cnt_t (p := fun s => p s ∧ R s c = nI f) ⟨pnz h32, by rw [hv, e]⟩
          · rw [if_neg e]
            exact cnt_f (p := fun s => p s ∧ R s c = nI f) (fun z => e ((nI_eq (by omega) (by omega)).mp (hv.symm.trans z.2)).symm)
        have hcv := cnt_le (p := fun s => p s ∧ R s c = nI v) i
        refine go_c1 ?_
        refine go_istore (i := 5) dX4_mostAlike_60 (nle rfl) (nle rfl) ?_
        refine go_aload_n (q := 0) (i := 0) rfl rfl dX4_mostAlike_62 ?_
        refine go_getR lf4_35 rfl hh.o hh.r7 dX4_mostAlike_63 ?_
        refine go_iload (i := 5) rfl dX4_mostAlike_66 ?_
        refine go_dup2 rfl rfl dX4_mostAlike_68 ?_
        refine go_iald (j := v) hh.i7 (by omega) (by first | decide | omega) rfl dX4_mostAlike_69 ?_
        rw [show gI mk 223 v = nI (cnt (fun s => p s ∧ R s c = nI v) i) from ha v (by omega)]
        refine go_iconst (v := nI 1) (by decide) dX4_mostAlike_70 ?_
        refine gn_add dX4_mostAlike_71 ?_
        refine go_iast (j := v) hh.i7 (by omega) (by first | decide | omega) rfl dX4_mostAlike_72 ?_
        refine go_iload_n (q := 2) (i := 2) rfl rfl dX4_mostAlike_73 ?_
        refine go_aload_n (q := 0) (i := 0) rfl rfl dX4_mostAlike_74 ?_
        refine go_getR lf4_35 rfl hh.o hh.r7 dX4_mostAlike_75 ?_
        refine go_iload (i := 5) rfl dX4_mostAlike_78 ?_
        refine go_iald (j := v) hh.i7 (by omega) (by first | decide | omega) rfl dX4_mostAlike_80 ?_
        rw [gI_s, upd_eq]
        refine go_max okMax (wg5 129 rfl rfl) ⟨nle rfl, nle rfl⟩ ⟨Nat.zero_le _, Nat.zero_le _⟩ dX4_mostAlike_81 ?_
        rw [mx_n (by omega) (by omega)]
        refine go_istore_n (q := 2) (i := 2) rfl dX4_mostAlike_84 (nle rfl) (nle rfl) ?_
        refine gn_inc (i := 3) (a := i) (q := 1) rfl dX4_mostAlike_85 (nle rfl) rfl ?_
        refine go_goto (tgt := 12) dX4_mostAlike_88 (by decide) ?_
        refine ih _ _ (ck.tr (Ch.I rfl)) (fun f hf => ?_) (by split <;> omega) (MxA_c (fun f hf => (hal f hf).symm) (mx_g (g := 0) hM (by omega))) _ _
        rw [gI_s]
        show _ = nI (cnt (fun s => p s ∧ R s c = nI f) (i + 1))
        rw [hal f hf]
        by_cases e : f = v
        · rw [e, upd_eq, if_pos rfl]
        · rw [upd_ne e, if_neg e]; exact ha f hf
  refine go_iconst (v := nI 0) (by decide) dX4_mostAlike_0 ?_
  refine go_istore_n (q := 2) (i := 2) rfl dX4_mostAlike_1 (nle rfl) (nle rfl) ?_
  refine go_aload_n (q := 0) (i := 0) rfl rfl dX4_mostAlike_2 ?_
  refine go_getR lf4_35 rfl hh.o hh.r7 dX4_mostAlike_3 ?_
  refine go_iconst (v := nI 0) (by decide) dX4_mostAlike_6 ?_
  refine go_callS okmX11_fill lmX4_82 ⟨nle rfl, nle rfl⟩ (ev_fill (by decide) hh.i7) npmX11_fill rfl (nle rfl) ⟨nle rfl, nle rfl⟩ dX4_mostAlike_7 ?_
  rintro _ m1 ⟨rfl, e1⟩
  subst e1
  refine go_c0 ?_
  refine go_iconst (v := nI 0) (by decide) dX4_mostAlike_10 ?_
  refine go_istore_n (q := 3) (i := 3) rfl dX4_mostAlike_11 (nle rfl) (nle rfl) ?_
  refine key 0 (Nat.zero_le _) _ 0 (Ch.I rfl) (fun f hf => ?_) (Nat.zero_le _) ⟨fun f _ => Nat.zero_le _, Or.inl rfl⟩ _ _
  rw [gI_s, cp_in hf]
  rfl
theorem Bst_0 {P : Pl} {g : Nat → Nat → Nat} {i w : Nat} (l : ld P i) (h : ∀ c, c < i → ¬ ld P c) (k : MxA (g i) w) : Bst P g (i + 1) i :=
  ⟨by omega, l, w, k, fun c hc lc w' kw => by
    have e : c = i := Classical.byContradiction (fun z => h c (by omega) lc)
    subst e
    rw [MxA_u k kw]; exact ⟨Nat.le_refl _, fun z => absurd z (Nat.lt_irrefl _)⟩⟩
theorem Bst_n {P : Pl} {g : Nat → Nat → Nat} {i b : Nat} (l : ¬ ld P i) (h : Bst P g i b) : Bst P g (i + 1) b := by
  obtain ⟨h1, h2, w, h3, h4⟩ := h
  exact ⟨by omega, h2, w, h3, fun c hc lc w' kw => h4 c (Classical.byContradiction (fun z => l (by rw [show i = c by omega]; exact lc))) lc w' kw⟩
theorem Bst_s {P : Pl} {g : Nat → Nat → Nat} {i b w w2 : Nat} (l : ld P i) (h : Bst P g i b) (hb : MxA (g b) w) (hi : MxA (g i) w2) : (w2 < w → Bst P g (i + 1) i) ∧ (w ≤ w2 → Bst P g (i + 1) b) := by
  obtain ⟨h1, h2, w1, h3, h4⟩ := h
  have e := MxA_u h3 hb
  subst e
  refine ⟨fun q => ⟨by omega, l, w2, hi, fun c hc lc w' kw => ?_⟩, fun q => ⟨by omega, h2, w1, h3, fun c hc lc w' kw => ?_⟩⟩
  · by_cases z : c = i
    · subst z
      rw [MxA_u hi kw]; exact ⟨Nat.le_refl _, fun z => absurd z (Nat.lt_irrefl _)⟩
    · have := h4 c (by omega) lc w' kw
      exact ⟨by omega, fun _ => by omega⟩
  · by_cases z : c = i
    · subst z
      rw [← MxA_u hi kw]; exact ⟨q, fun _ => by omega⟩
    · exact h4 c (by omega) lc w' kw
set_option maxRecDepth 100000 in
set_option maxHeartbeats 8000000 in
theorem ev_bestCell {m : Me} {pl dr : Nat} {P : Pl} {p : Nat → Prop} {R : Nat → Nat → Int32} (hX : CX m.1 (gR m) pl dr) (hP : PlC m pl P) (ok : PlOk P) (hl : ∀ s, s ≤ 40 → gI m 221 s = pit (p s) (nI 1) (nI 0)) (hf : ∀ s, s ≤ 40 → p s → ∀ c, c < 40 → gI m 222 (s * 40 + c) = R s c) (hR : ∀ s, s ≤ 40 → ∀ c, c < 40 → ∃ v, v ≤ 99 ∧ R s c = nI v) : Ev mX4_bestCell [.ref 211, .ref pl] m (fun o m' => Ch (fun y => y = 223) m m' ∧ ((o = some (.int (-1)) ∧ ∀ c, c < 40 → ¬ ld P c) ∨ ∃ b, o = some (.int (nI b)) ∧ Bst P (fun c f => cnt (fun s => p s ∧ R s c = nI f) 41) 40 b)) := by
  refine ⟨plmX4_bestCell, nle rfl, ?_⟩
  have hX0 := hX
  have hP0 := hP
  have key : ∀ i, i ≤ 40 → ∀ (mk : Me) (b : Int32) (w : Nat), Ch (fun y => y = 223) m mk → ((b = -1 ∧ w = 42 ∧ ∀ c, c < i → ¬ ld P c) ∨ ∃ q, b = nI q ∧ Bst P (fun c f => cnt (fun s => p s ∧ R s c = nI f) 41) i q ∧ MxA ((fun c f => cnt (fun s => p s ∧ R s c = nI f) 41) q) w ∧ w ≤ 41) → ∀ x5 : Option Value, Go mX4_bestCell (fun o m' => Ch (fun y => y = 223) m m' ∧ ((o = some (.int (-1)) ∧ ∀ c, c < 40 → ¬ ld P c) ∨ ∃ b, o = some (.int (nI b)) ∧ Bst P (fun c f => cnt (fun s => p s ∧ R s c = nI f) 41) 40 b)) 8 [some (.ref 211), some (.ref pl), some (.int b), some (.int (nI w)), some (.int (nI i)), x5] [] mk 0 0 := by
    refine loop_up 40 ?_ ?_
    · intro mk b w ck hI x5
      have hX := CX.to ck hX0
      have hP := PlC.kp hX0 ck (fun x a b => by omega) hP0
      have hw42 : w ≤ 42 := by rcases hI with ⟨-, e, -⟩ | ⟨q, e, h, hq, h4⟩ <;> omega
      refine go_iload (i := 4) rfl dX4_bestCell_8 ?_
      refine go_bipush (v := nI 40) (by decide) dX4_bestCell_10 ?_
      refine gn_ge (by omega) (by omega) (tgt := 55) dX4_bestCell_12 (by decide) (fun h12 => ?_) (fun h12 => by exfalso; omega)
      refine go_iload_n (q := 2) (i := 2) rfl rfl dX4_bestCell_55 ?_
      refine go_iret rfl ⟨Nat.zero_le _, Nat.zero_le _⟩ dX4_bestCell_56 ?_
      refine ⟨ck, ?_⟩
      rcases hI with ⟨rfl, -, h⟩ | ⟨q, rfl, h, -, -⟩
      · exact Or.inl ⟨rfl, h⟩
      · exact Or.inr ⟨q, rfl, h⟩
    · intro i hi ih mk b w ck hI x5
      have hX := CX.to ck hX0
      have hP := PlC.kp hX0 ck (fun x a b => by omega) hP0
      have hw42 : w ≤ 42 := by rcases hI with ⟨-, e, -⟩ | ⟨q, e, h, hq, h4⟩ <;> omega
      refine go_iload (i := 4) rfl dX4_bestCell_8 ?_
      refine go_bipush (v := nI 40) (by decide) dX4_bestCell_10 ?_
      refine gn_ge (by omega) (by omega) (tgt := 55) dX4_bestCell_12 (by decide) (fun h12 => by exfalso; omega) (fun h12 => ?_)
      refine go_aload_n (q := 1) (i := 1) rfl rfl dX4_bestCell_15 ?_
      refine go_iload (i := 4) rfl dX4_bestCell_16 ?_
      refine go_callV okmX7_isLand lmX4_48 ⟨nle rfl, nle rfl⟩ hX.wp.o ⟨by decide, rfl⟩ (ev_isLand hX.wp (by omega)) npmX7_isLand rfl (nle rfl) ⟨nle rfl, nle rfl⟩ dX4_bestCell_18 ?_
      rintro _ mz ⟨rfl, hz⟩
      subst mz
      rw [ldS_c ok hP (by omega)]
      refine go_c1 ?_
      refine go_if_eq (tgt := 33) dX4_bestCell_21 (by decide) (fun h21 => ?_) (fun h21 => ?_)
      · skip
        refine go_bipush (v := nI 42) (by decide) dX4_bestCell_33 ?_
        refine go_istore (i := 5) dX4_bestCell_35 (nle rfl) (nle rfl) ?_
        refine go_iload (i := 5) rfl dX4_bestCell_37 ?_
        refine go_iload_n (q := 3) (i := 3) rfl rfl dX4_bestCell_39 ?_
        refine gn_ge (by omega) (by omega) (tgt := 49) dX4_bestCell_40 (by decide) (fun h40 => ?_) (fun h40 => ?_)
        · skip
          refine gn_inc (i := 4) (a := i) (q := 1) rfl dX4_bestCell_49 (nle rfl) rfl ?_
          refine go_goto (tgt := 8) dX4_bestCell_52 (by decide) ?_
          have li := pz.mp h21
          refine ih _ _ w ck ?_ _
          rcases hI with ⟨e, e2, h⟩ | ⟨q, e, h, hq, h4⟩
          · refine Or.inl ⟨e, e2, fun c hc => ?_⟩
            by_cases z : c = i
            · rw [z]; exact li
            · exact h c (by omega)
          · exact Or.inr ⟨q, e, Bst_n li h, hq, h4⟩
        · skip
          refine go_iload (i := 4) rfl dX4_bestCell_43 ?_
          refine go_istore_n (q := 2) (i := 2) rfl dX4_bestCell_45 (nle rfl) (nle rfl) ?_
          refine go_iload (i := 5) rfl dX4_bestCell_46 ?_
          refine go_istore_n (q := 3) (i := 3) rfl dX4_bestCell_48 (nle rfl) (nle rfl) ?_
          refine gn_inc (i := 4) (a := i) (q := 1) rfl dX4_bestCell_49 (nle rfl) rfl ?_
          refine go_goto (tgt := 8) dX4_bestCell_52 (by decide) ?_
          exfalso
          rcases hI with ⟨-, e, -⟩ | ⟨q, e, h, hq, h4⟩ <;> omega
      · skip
        refine go_aload_n (q := 0) (i := 0) rfl rfl dX4_bestCell_24 ?_
        refine go_iload (i := 4) rfl dX4_bestCell_25 ?_
        refine go_callV okmX4_mostAlike lmX4_78 ⟨nle rfl, nle rfl⟩ hX.w10.o ⟨by decide, rfl⟩ (ev_mostAlike (c := i) (p := p) (R := R) hX.w10 (fun s hs => by rw [ck.at (by omega)]; exact hl s hs) (fun s hs a => by rw [ck.at (by omega)]; exact hf s hs a i hi) (fun s hs => hR s hs i hi) hi) npmX4_mostAlike rfl (nle rfl) ⟨nle rfl, nle rfl⟩ dX4_bestCell_27 ?_
        rintro _ m2 ⟨c2, w2, rfl, hw2, hM2⟩
        have ck2 := ck.tr c2
        have hX := CX.to c2 hX
        refine go_c1 ?_
        refine go_goto (tgt := 35) dX4_bestCell_30 (by decide) ?_
        refine go_istore (i := 5) dX4_bestCell_35 (nle rfl) (nle rfl) ?_
        refine go_iload (i := 5) rfl dX4_bestCell_37 ?_
        refine go_iload_n (q := 3) (i := 3) rfl rfl dX4_bestCell_39 ?_
        refine gn_ge (by omega) (by omega) (tgt := 49) dX4_bestCell_40 (by decide) (fun h40 => ?_) (fun h40 => ?_)
        · skip
          refine gn_inc (i := 4) (a := i) (q := 1) rfl dX4_bestCell_49 (nle rfl) rfl ?_
          refine go_goto (tgt := 8) dX4_bestCell_52 (by decide) ?_
          have li := pnz h21
          refine ih _ _ w ck2 ?_ _
          rcases hI with ⟨-, e, -⟩ | ⟨q, e, h, hq, h4⟩
          · exfalso; omega
          · exact Or.inr ⟨q, e, (Bst_s li h hq hM2).2 (by omega), hq, h4⟩
        · skip
          refine go_iload (i := 4) rfl dX4_bestCell_43 ?_
          refine go_istore_n (q := 2) (i := 2) rfl dX4_bestCell_45 (nle rfl) (nle rfl) ?_
          refine go_iload (i := 5) rfl dX4_bestCell_46 ?_
          refine go_istore_n (q := 3) (i := 3) rfl dX4_bestCell_48 (nle rfl) (nle rfl) ?_
          refine gn_inc (i := 4) (a := i) (q := 1) rfl dX4_bestCell_49 (nle rfl) rfl ?_
          refine go_goto (tgt := 8) dX4_bestCell_52 (by decide) ?_
          have li := pnz h21
          refine ih _ _ w2 ck2 (Or.inr ⟨i, rfl, ?_, hM2, hw2⟩) _
          rcases hI with ⟨-, -, h⟩ | ⟨q, -, h, hq, -⟩
          · exact Bst_0 li h hM2
          · exact (Bst_s li h hq hM2).1 (by omega)
  refine go_iconst (v := -1) (by decide) dX4_bestCell_0 ?_
  refine go_istore_n (q := 2) (i := 2) rfl dX4_bestCell_1 (nle rfl) (nle rfl) ?_
  refine go_bipush (v := nI 42) (by decide) dX4_bestCell_2 ?_
  refine go_istore_n (q := 3) (i := 3) rfl dX4_bestCell_4 (nle rfl) (nle rfl) ?_
  refine go_iconst (v := nI 0) (by decide) dX4_bestCell_5 ?_
  refine go_istore (i := 4) dX4_bestCell_6 (nle rfl) (nle rfl) ?_
  exact key 0 (Nat.zero_le _) m _ _ Ch.rf (Or.inl ⟨rfl, rfl, fun c h => absurd h (Nat.not_lt_zero c)⟩) _
def lekS (P : Pl) (t : Nat) (tc th tf : Nat → Nat) (v o : Int32) : Prop := (inS v (nI 0) (nI t) = nI 0 ∧ o = -1) ∨ ∃ k, k ≤ t ∧ v = nI k ∧ o = nI (cnt (lvS P k tc th tf) 41)
theorem lekS_u {P : Pl} {t : Nat} {tc th tf : Nat → Nat} {v o o' : Int32} (ht : t ≤ 20) (h : lekS P t tc th tf v o) (h' : lekS P t tc th tf v o') : o = o' := by
  rcases h with ⟨a, e⟩ | ⟨k, hk, ek, e⟩
  · rcases h' with ⟨a', e'⟩ | ⟨k', hk', ek', e'⟩
    · rw [e, e']
    · exact absurd ek' (in_no ht hk' a)
  · rcases h' with ⟨a', e'⟩ | ⟨k', hk', ek', e'⟩
    · exact absurd ek (in_no ht hk a')
    · have q : k = k' := (nI_eq (by omega) (by omega)).mp (ek.symm.trans ek')
      subst q
      rw [e, e']
theorem ClK.ch {A : Nat → Prop} {pl : Nat} {m m' : Me} (c : Ch A m m') (h : ∀ x, A x → LkA pl x) : ClK pl m m' := ⟨c.1, c.2.2.1, fun x z => c.at (fun q => z (h x q)), fun _ _ => by rw [c.2.1]⟩
set_option maxRecDepth 100000 in
set_option maxHeartbeats 8000000 in
theorem ev_leaks {m : Me} {pl dr : Nat} {P : Pl} (hX : CX m.1 (gR m) pl dr) (hP : PlC m pl P) (ok : PlOk P) {t : Nat} {tc th tf : Nat → Nat} (hT : Td m 212 213 214 t tc th tf) (hTO : TdO P t tc th tf) (h3 : gI m 211 3 = nI t) {v : Int32} : Ev mX11_leaks [.ref 0, .int v] m (fun o m' => ClK pl m m' ∧ ∃ q, o = some (.int q) ∧ lekS P t tc th tf v q) := by
  refine ⟨plmX11_leaks, nle rfl, ?_⟩
  have ht := hTO.1
  rcases in_c v (N := t) (by omega) with hv | ⟨k, hk, rfl, hv⟩
  · skip
    refine go_aload_n (q := 0) (i := 0) rfl rfl dX11_leaks_0 ?_
    refine go_getR lf11_72 rfl hX.o hX.r10 dX11_leaks_1 ?_
    refine go_iload_n (q := 1) (i := 1) rfl rfl dX11_leaks_4 ?_
    refine go_callV okmX4_knows lmX11_281 ⟨nle rfl, nle rfl⟩ hX.w10.o ⟨by decide, rfl⟩ (ev_knows hX.w10 h3) npmX4_knows rfl (nle rfl) ⟨nle rfl, nle rfl⟩ dX11_leaks_5 ?_
    rintro _ mz ⟨rfl, hz⟩
    subst mz
    rw [hv]
    refine go_c1 ?_
    refine gz_eq (by omega) (tgt := 31) dX11_leaks_8 (by decide) (fun h8 => ?_) (fun h8 => by exfalso; omega)
    refine go_iconst (v := -1) (by decide) dX11_leaks_31 ?_
    refine go_iret rfl ⟨Nat.zero_le _, Nat.zero_le _⟩ dX11_leaks_32 ?_
    exact ⟨ClK.rf, _, rfl, Or.inl ⟨hv, rfl⟩⟩
  · skip
    refine go_aload_n (q := 0) (i := 0) rfl rfl dX11_leaks_0 ?_
    refine go_getR lf11_72 rfl hX.o hX.r10 dX11_leaks_1 ?_
    refine go_iload_n (q := 1) (i := 1) rfl rfl dX11_leaks_4 ?_
    refine go_callV okmX4_knows lmX11_281 ⟨nle rfl, nle rfl⟩ hX.w10.o ⟨by decide, rfl⟩ (ev_knows hX.w10 h3) npmX4_knows rfl (nle rfl) ⟨nle rfl, nle rfl⟩ dX11_leaks_5 ?_
    rintro _ mz ⟨rfl, hz⟩
    subst mz
    rw [hv]
    refine go_c1 ?_
    refine gz_eq (by omega) (tgt := 31) dX11_leaks_8 (by decide) (fun h8 => by exfalso; omega) (fun h8 => ?_)
    refine go_aload_n (q := 0) (i := 0) rfl rfl dX11_leaks_11 ?_
    refine go_getR lf11_72 rfl hX.o hX.r10 dX11_leaks_12 ?_
    refine go_aload_n (q := 0) (i := 0) rfl rfl dX11_leaks_15 ?_
    refine go_getR lf11_86 rfl hX.o hX.rp dX11_leaks_16 ?_
    refine go_aload_n (q := 0) (i := 0) rfl rfl dX11_leaks_19 ?_
    refine go_getR lf11_40 rfl hX.o hX.r4 dX11_leaks_20 ?_
    refine go_iload_n (q := 1) (i := 1) rfl rfl dX11_leaks_23 ?_
    refine go_iconst (v := nI 0) (by decide) dX11_leaks_24 ?_
    refine go_callV okmX4_weigh lmX11_284 ⟨nle rfl, nle rfl⟩ hX.w10.o ⟨by decide, rfl⟩ (ev_weigh (n := 0) hX hP ok hT hTO hk (by omega)) npmX4_weigh rfl (nle rfl) ⟨nle rfl, nle rfl⟩ dX11_leaks_25 ?_
    rintro _ m1 ⟨rfl, c1, l1, f1⟩
    rw [show cnt (fun s => Lf P k tc th tf s 25) 41 = cnt (lvS P k tc th tf) 41 from rfl]
    have hcl := cnt_le (p := lvS P k tc th tf) 41
    have hX1 := CX.to c1 hX
    have hP1 := PlC.wg hX c1 hP
    refine go_c1 ?_
    refine go_goto (tgt := 32) dX11_leaks_28 (by decide) ?_
    refine go_iret rfl ⟨Nat.zero_le _, Nat.zero_le _⟩ dX11_leaks_32 ?_
    exact ⟨ClK.ch c1 (fun x z => by unfold WgA at z; unfold LkA; omega), _, rfl, Or.inr ⟨k, hk, rfl, rfl⟩⟩
set_option maxRecDepth 100000 in
set_option maxHeartbeats 8000000 in
theorem ev_sure {m : Me} {pl dr : Nat} {P : Pl} (hX : CX m.1 (gR m) pl dr) (hP : PlC m pl P) (ok : PlOk P) {t : Nat} {tc th tf : Nat → Nat} (hT : Td m 212 213 214 t tc th tf) (hTO : TdO P t tc th tf) (h3 : gI m 211 3 = nI t) {v : Int32} : Ev mX11_sure [.ref 0, .int v] m (fun o m' => ClK pl m m' ∧ ∃ q, o = some (.int q) ∧ SuR P t tc th tf v q) := by
  refine ⟨plmX11_sure, nle rfl, ?_⟩
  have ht := hTO.1
  rcases in_c v (N := t) (by omega) with hv | ⟨k, hk, rfl, hv⟩
  · skip
    refine go_aload_n (q := 0) (i := 0) rfl rfl dX11_sure_0 ?_
    refine go_getR lf11_72 rfl hX.o hX.r10 dX11_sure_1 ?_
    refine go_iload_n (q := 1) (i := 1) rfl rfl dX11_sure_4 ?_
    refine go_callV okmX4_knows lmX11_281 ⟨nle rfl, nle rfl⟩ hX.w10.o ⟨by decide, rfl⟩ (ev_knows hX.w10 h3) npmX4_knows rfl (nle rfl) ⟨nle rfl, nle rfl⟩ dX11_sure_5 ?_
    rintro _ mz ⟨rfl, hz⟩
    subst mz
    rw [hv]
    refine go_c1 ?_
    refine gz_ne (by omega) (tgt := 13) dX11_sure_8 (by decide) (fun h8 => by exfalso; omega) (fun h8 => ?_)
    refine go_iconst (v := -1) (by decide) dX11_sure_11 ?_
    refine go_iret rfl ⟨Nat.zero_le _, Nat.zero_le _⟩ dX11_sure_12 ?_
    exact ⟨ClK.rf, _, rfl, Or.inl ⟨hv, rfl⟩⟩
  · skip
    refine go_aload_n (q := 0) (i := 0) rfl rfl dX11_sure_0 ?_
    refine go_getR lf11_72 rfl hX.o hX.r10 dX11_sure_1 ?_
    refine go_iload_n (q := 1) (i := 1) rfl rfl dX11_sure_4 ?_
    refine go_callV okmX4_knows lmX11_281 ⟨nle rfl, nle rfl⟩ hX.w10.o ⟨by decide, rfl⟩ (ev_knows hX.w10 h3) npmX4_knows rfl (nle rfl) ⟨nle rfl, nle rfl⟩ dX11_sure_5 ?_
    rintro _ mz ⟨rfl, hz⟩
    subst mz
    rw [hv]
    refine go_c1 ?_
    refine gz_ne (by omega) (tgt := 13) dX11_sure_8 (by decide) (fun h8 => ?_) (fun h8 => by exfalso; omega)
    refine go_aload_n (q := 0) (i := 0) rfl rfl dX11_sure_13 ?_
    refine go_getR lf11_72 rfl hX.o hX.r10 dX11_sure_14 ?_
    refine go_aload_n (q := 0) (i := 0) rfl rfl dX11_sure_17 ?_
    refine go_getR lf11_86 rfl hX.o hX.rp dX11_sure_18 ?_
    refine go_aload_n (q := 0) (i := 0) rfl rfl dX11_sure_21 ?_
    refine go_getR lf11_40 rfl hX.o hX.r4 dX11_sure_22 ?_
    refine go_iload_n (q := 1) (i := 1) rfl rfl dX11_sure_25 ?_
    refine go_iconst (v := nI 0) (by decide) dX11_sure_26 ?_
    refine go_callV okmX4_weigh lmX11_284 ⟨nle rfl, nle rfl⟩ hX.w10.o ⟨by decide, rfl⟩ (ev_weigh (n := 0) hX hP ok hT hTO hk (by omega)) npmX4_weigh rfl (nle rfl) ⟨nle rfl, nle rfl⟩ dX11_sure_27 ?_
    rintro _ m1 ⟨rfl, c1, l1, f1⟩
    rw [show cnt (fun s => Lf P k tc th tf s 25) 41 = cnt (lvS P k tc th tf) 41 from rfl]
    have hcl := cnt_le (p := lvS P k tc th tf) 41
    have hX1 := CX.to c1 hX
    have hP1 := PlC.wg hX c1 hP
    refine go_c1 ?_
    refine go_iconst (v := nI 1) (by decide) dX11_sure_30 ?_
    refine gn_eq (by omega) (by omega) (tgt := 37) dX11_sure_31 (by decide) (fun h31 => ?_) (fun h31 => ?_)
    · skip
      have hX := hX1
      refine go_aload_n (q := 0) (i := 0) rfl rfl dX11_sure_37 ?_
      refine go_getR lf11_72 rfl hX.o hX.r10 dX11_sure_38 ?_
      refine go_callV okmX4_firstLeft lmX11_288 ⟨nle rfl, nle rfl⟩ hX.w10.o ⟨by decide, rfl⟩ (ev_firstLeft hX1.w10 l1 (cnt_ex 41 (by rw [h31]; decide))) npmX4_firstLeft rfl (nle rfl) ⟨nle rfl, nle rfl⟩ dX11_sure_41 ?_
      rintro _ _ ⟨rfl, s, hs, ls, rfl⟩
      refine go_c1 ?_
      refine go_istore_n (q := 2) (i := 2) rfl dX11_sure_44 (nle rfl) (nle rfl) ?_
      refine go_iload_n (q := 2) (i := 2) rfl rfl dX11_sure_45 ?_
      refine go_bipush (v := nI 40) (by decide) dX11_sure_46 ?_
      refine gn_ne (by omega) (by omega) (tgt := 56) dX11_sure_48 (by decide) (fun h48 => ?_) (fun h48 => ?_)
      · skip
        refine go_iload_n (q := 2) (i := 2) rfl rfl dX11_sure_56 ?_
        refine go_callS okmX11_told lmX11_232 ⟨nle rfl, nle rfl⟩ (ev_told) npmX11_told rfl (nle rfl) ⟨nle rfl, nle rfl⟩ dX11_sure_57 ?_
        rintro _ mz ⟨rfl, hz⟩
        subst mz
        refine go_c1 ?_
        refine go_iret rfl ⟨Nat.zero_le _, Nat.zero_le _⟩ dX11_sure_60 ?_
        refine ⟨ClK.ch c1 (fun x z => by unfold WgA at z; unfold LkA; omega), _, rfl, Or.inr ⟨k, hk, rfl, Or.inr ⟨h31, s, hs, ls, ?_⟩⟩⟩
        unfold fuS
        rw [if_neg h48, told_c (by omega)]
        rfl
      · skip
        refine go_bipush (v := nI 100) (by decide) dX11_sure_51 ?_
        refine go_goto (tgt := 60) dX11_sure_53 (by decide) ?_
        refine go_iret rfl ⟨Nat.zero_le _, Nat.zero_le _⟩ dX11_sure_60 ?_
        refine ⟨ClK.ch c1 (fun x z => by unfold WgA at z; unfold LkA; omega), _, rfl, Or.inr ⟨k, hk, rfl, Or.inr ⟨h31, s, hs, ls, ?_⟩⟩⟩
        unfold fuS
        rw [if_pos h48]
    · skip
      refine go_bipush (v := -2) (by decide) dX11_sure_34 ?_
      refine go_iret rfl ⟨Nat.zero_le _, Nat.zero_le _⟩ dX11_sure_36 ?_
      exact ⟨ClK.ch c1 (fun x z => by unfold WgA at z; unfold LkA; omega), _, rfl, Or.inr ⟨k, hk, rfl, Or.inl ⟨h31, rfl⟩⟩⟩
theorem lk_ok {P : Pl} (ok : PlOk P) {s n : Nat} (hn : n ≤ 24) : ∀ c, c < 40 → ∃ v, v ≤ 99 ∧ lkR P s n c = nI v := (hrN_ok ok (bgM_ok ok) n (by omega)).1.1
set_option maxRecDepth 100000 in
set_option maxHeartbeats 8000000 in
theorem ev_ask {m : Me} {pl dr : Nat} {P : Pl} (hX : CX m.1 (gR m) pl dr) (hP : PlC m pl P) (ok : PlOk P) {t : Nat} {tc th tf : Nat → Nat} (hT : Td m 212 213 214 t tc th tf) (hTO : TdO P t tc th tf) (h3 : gI m 211 3 = nI t) {v n : Int32} : Ev mX11_ask [.ref 0, .int v, .int n] m (fun o m' => ClK pl m m' ∧ ∃ q, o = some (.int q) ∧ AsR P t tc th tf v n q) := by
  refine ⟨plmX11_ask, nle rfl, ?_⟩
  have ht := hTO.1
  rcases in_c v (N := t) (by omega) with hv | ⟨k, hk, rfl, hv⟩
  · skip
    refine go_aload_n (q := 0) (i := 0) rfl rfl dX11_ask_0 ?_
    refine go_getR lf11_72 rfl hX.o hX.r10 dX11_ask_1 ?_
    refine go_iload_n (q := 1) (i := 1) rfl rfl dX11_ask_4 ?_
    refine go_callV okmX4_knows lmX11_281 ⟨nle rfl, nle rfl⟩ hX.w10.o ⟨by decide, rfl⟩ (ev_knows hX.w10 h3) npmX4_knows rfl (nle rfl) ⟨nle rfl, nle rfl⟩ dX11_ask_5 ?_
    rintro _ mz ⟨rfl, hz⟩
    subst mz
    rw [hv]
    refine go_c1 ?_
    refine gz_eq (by omega) (tgt := 21) dX11_ask_8 (by decide) (fun h8 => ?_) (fun h8 => by exfalso; omega)
    refine go_iconst (v := -1) (by decide) dX11_ask_21 ?_
    refine go_iret rfl ⟨Nat.zero_le _, Nat.zero_le _⟩ dX11_ask_22 ?_
    exact ⟨ClK.rf, _, rfl, Or.inl ⟨fun k' n' a b z => in_no ht a hv z.1, rfl⟩⟩
  · skip
    rcases in_c n (N := 24) (by decide) with hn | ⟨j, hj, rfl, hn⟩
    · skip
      refine go_aload_n (q := 0) (i := 0) rfl rfl dX11_ask_0 ?_
      refine go_getR lf11_72 rfl hX.o hX.r10 dX11_ask_1 ?_
      refine go_iload_n (q := 1) (i := 1) rfl rfl dX11_ask_4 ?_
      refine go_callV okmX4_knows lmX11_281 ⟨nle rfl, nle rfl⟩ hX.w10.o ⟨by decide, rfl⟩ (ev_knows hX.w10 h3) npmX4_knows rfl (nle rfl) ⟨nle rfl, nle rfl⟩ dX11_ask_5 ?_
      rintro _ mz ⟨rfl, hz⟩
      subst mz
      rw [hv]
      refine go_c1 ?_
      refine gz_eq (by omega) (tgt := 21) dX11_ask_8 (by decide) (fun h8 => by exfalso; omega) (fun h8 => ?_)
      refine go_iload_n (q := 2) (i := 2) rfl rfl dX11_ask_11 ?_
      refine go_if_lt (tgt := 21) dX11_ask_12 (by decide) (fun h12 => ?_) (fun h12 => ?_)
      · skip
        refine go_iconst (v := -1) (by decide) dX11_ask_21 ?_
        refine go_iret rfl ⟨Nat.zero_le _, Nat.zero_le _⟩ dX11_ask_22 ?_
        exact ⟨ClK.rf, _, rfl, Or.inl ⟨fun k' n' a b z => by rw [z.2, in_yes (nI_ge0 (by omega)) (by rw [nI_ltI (by omega) (by omega)]; omega)] at hn; exact absurd hn (by decide), rfl⟩⟩
      · skip
        refine go_iload_n (q := 2) (i := 2) rfl rfl dX11_ask_15 ?_
        refine go_bipush (v := nI 24) (by decide) dX11_ask_16 ?_
        refine go_icmp_le (tgt := 23) dX11_ask_18 (by decide) (fun h18 => by exfalso; exact gt_in (by decide) hn h12 h18) (fun h18 => ?_)
        refine go_iconst (v := -1) (by decide) dX11_ask_21 ?_
        refine go_iret rfl ⟨Nat.zero_le _, Nat.zero_le _⟩ dX11_ask_22 ?_
        exact ⟨ClK.rf, _, rfl, Or.inl ⟨fun k' n' a b z => by rw [z.2, in_yes (nI_ge0 (by omega)) (by rw [nI_ltI (by omega) (by omega)]; omega)] at hn; exact absurd hn (by decide), rfl⟩⟩
    · skip
      refine go_aload_n (q := 0) (i := 0) rfl rfl dX11_ask_0 ?_
      refine go_getR lf11_72 rfl hX.o hX.r10 dX11_ask_1 ?_
      refine go_iload_n (q := 1) (i := 1) rfl rfl dX11_ask_4 ?_
      refine go_callV okmX4_knows lmX11_281 ⟨nle rfl, nle rfl⟩ hX.w10.o ⟨by decide, rfl⟩ (ev_knows hX.w10 h3) npmX4_knows rfl (nle rfl) ⟨nle rfl, nle rfl⟩ dX11_ask_5 ?_
      rintro _ mz ⟨rfl, hz⟩
      subst mz
      rw [hv]
      refine go_c1 ?_
      refine gz_eq (by omega) (tgt := 21) dX11_ask_8 (by decide) (fun h8 => by exfalso; omega) (fun h8 => ?_)
      refine go_iload_n (q := 2) (i := 2) rfl rfl dX11_ask_11 ?_
      refine gz_lt (by omega) (tgt := 21) dX11_ask_12 (by decide) (fun h12 => by exfalso; omega) (fun h12 => ?_)
      refine go_iload_n (q := 2) (i := 2) rfl rfl dX11_ask_15 ?_
      refine go_bipush (v := nI 24) (by decide) dX11_ask_16 ?_
      refine gn_le (by omega) (by omega) (tgt := 23) dX11_ask_18 (by decide) (fun h18 => ?_) (fun h18 => by exfalso; omega)
      refine go_aload_n (q := 0) (i := 0) rfl rfl dX11_ask_23 ?_
      refine go_getR lf11_72 rfl hX.o hX.r10 dX11_ask_24 ?_
      refine go_aload_n (q := 0) (i := 0) rfl rfl dX11_ask_27 ?_
      refine go_getR lf11_86 rfl hX.o hX.rp dX11_ask_28 ?_
      refine go_aload_n (q := 0) (i := 0) rfl rfl dX11_ask_31 ?_
      refine go_getR lf11_40 rfl hX.o hX.r4 dX11_ask_32 ?_
      refine go_iload_n (q := 1) (i := 1) rfl rfl dX11_ask_35 ?_
      refine go_iload_n (q := 2) (i := 2) rfl rfl dX11_ask_36 ?_
      refine go_callV okmX4_weigh lmX11_284 ⟨nle rfl, nle rfl⟩ hX.w10.o ⟨by decide, rfl⟩ (ev_weigh (n := j) hX hP ok hT hTO hk (by omega)) npmX4_weigh rfl (nle rfl) ⟨nle rfl, nle rfl⟩ dX11_ask_37 ?_
      rintro _ m1 ⟨rfl, c1, l1, f1⟩
      rw [show cnt (fun s => Lf P k tc th tf s 25) 41 = cnt (lvS P k tc th tf) 41 from rfl]
      have hcl := cnt_le (p := lvS P k tc th tf) 41
      have hX1 := CX.to c1 hX
      have hP1 := PlC.wg hX c1 hP
      refine go_c1 ?_
      refine gz_ne (by omega) (tgt := 46) dX11_ask_40 (by decide) (fun h40 => ?_) (fun h40 => ?_)
      · skip
        have hX := hX1
        refine go_aload_n (q := 0) (i := 0) rfl rfl dX11_ask_46 ?_
        refine go_getR lf11_72 rfl hX.o hX.r10 dX11_ask_47 ?_
        refine go_aload_n (q := 0) (i := 0) rfl rfl dX11_ask_50 ?_
        refine go_getR lf11_86 rfl hX.o hX.rp dX11_ask_51 ?_
        refine go_callV okmX4_bestCell lmX11_291 ⟨nle rfl, nle rfl⟩ hX.w10.o ⟨by decide, rfl⟩ (ev_bestCell (p := lvS P k tc th tf) (R := fun s c => lkR P s j c) hX hP1 ok l1 f1 (fun s _ => lk_ok ok hj)) npmX4_bestCell rfl (nle rfl) ⟨nle rfl, nle rfl⟩ dX11_ask_54 ?_
        rintro _ m2 ⟨c2, ⟨rfl, h2⟩ | ⟨b, rfl, h2⟩⟩
        · skip
          refine go_c1 ?_
          refine go_istore_n (q := 3) (i := 3) rfl dX11_ask_57 (nle rfl) (nle rfl) ?_
          refine go_iload_n (q := 3) (i := 3) rfl rfl dX11_ask_58 ?_
          refine go_if_ge (tgt := 67) dX11_ask_59 (by decide) (fun h59 => by exfalso; exact absurd h59 (by decide)) (fun h59 => ?_)
          refine go_bipush (v := -2) (by decide) dX11_ask_62 ?_
          refine go_goto (tgt := 71) dX11_ask_64 (by decide) ?_
          refine go_iret rfl ⟨Nat.zero_le _, Nat.zero_le _⟩ dX11_ask_71 ?_
          exact ⟨(ClK.ch c1 (fun x z => by unfold WgA at z; unfold LkA; omega)).tr (ClK.ch c2 (fun x z => by unfold LkA; omega)), _, rfl, Or.inr ⟨k, j, hk, hj, rfl, rfl, Or.inr ⟨h40, Or.inl ⟨h2, rfl⟩⟩⟩⟩
        · skip
          have hb40 := h2.1
          refine go_c1 ?_
          refine go_istore_n (q := 3) (i := 3) rfl dX11_ask_57 (nle rfl) (nle rfl) ?_
          refine go_iload_n (q := 3) (i := 3) rfl rfl dX11_ask_58 ?_
          refine gz_ge (by omega) (tgt := 67) dX11_ask_59 (by decide) (fun h59 => ?_) (fun h59 => by exfalso; omega)
          refine go_iload_n (q := 3) (i := 3) rfl rfl dX11_ask_67 ?_
          refine go_callS okmX11_told lmX11_232 ⟨nle rfl, nle rfl⟩ (ev_told) npmX11_told rfl (nle rfl) ⟨nle rfl, nle rfl⟩ dX11_ask_68 ?_
          rintro _ mz ⟨rfl, hz⟩
          subst mz
          refine go_c1 ?_
          refine go_iret rfl ⟨Nat.zero_le _, Nat.zero_le _⟩ dX11_ask_71 ?_
          refine ⟨(ClK.ch c1 (fun x z => by unfold WgA at z; unfold LkA; omega)).tr (ClK.ch c2 (fun x z => by unfold LkA; omega)), _, rfl, Or.inr ⟨k, j, hk, hj, rfl, rfl, Or.inr ⟨h40, Or.inr ⟨b, h2, ?_⟩⟩⟩⟩
          rw [told_c hb40]
          rfl
      · skip
        refine go_bipush (v := -2) (by decide) dX11_ask_43 ?_
        refine go_iret rfl ⟨Nat.zero_le _, Nat.zero_le _⟩ dX11_ask_45 ?_
        exact ⟨ClK.ch c1 (fun x z => by unfold WgA at z; unfold LkA; omega), _, rfl, Or.inr ⟨k, j, hk, hj, rfl, rfl, Or.inl ⟨h40, rfl⟩⟩⟩
