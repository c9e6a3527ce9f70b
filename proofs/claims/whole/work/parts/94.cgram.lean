/-! the grammar, as a machine over the kinds: a state is a fault (0: none) and the token that it stands at -/
def gTk (K : Nat → Nat) (k : Nat) (s : Nat × Nat) : Nat × Nat := if s.1 ≠ 0 then s else if K s.2 ≠ k then (1, s.2) else if 400 ≤ s.2 then (2, s.2) else (0, s.2 + 1)
def gFl (c : Nat) (s : Nat × Nat) : Nat × Nat := if s.1 ≠ 0 then s else (c, s.2)
def gMany (K : Nat → Nat) (k : Nat) : Nat → Nat × Nat → Nat × Nat
  | 0, s => s
  | n + 1, s => gTk K k (gMany K k n s)
abbrev isU (k : Nat) : Prop := k = 24 ∨ (14 ≤ k ∧ k ≤ 22)
abbrev isOp (k : Nat) : Prop := 27 ≤ k ∧ k ≤ 30
def gSum (K : Nat → Nat) : Nat → Nat → Bool → Nat × Nat → Nat × Nat
  | 0, _, _, s => s
  | n + 1, d, due, s => if s.1 ≠ 0 then s else if due then (if K s.2 = 32 then gSum K n (d + 1) true (gTk K 32 (if 6 < d + 1 then (2, s.2) else s)) else gSum K n d false (gTk K (if isU (K s.2) then K s.2 else 24) s)) else if isOp (K s.2) then gSum K n d true (gTk K (K s.2) s) else if 0 < d then gSum K n (d - 1) false (gTk K 33 s) else s
noncomputable def kG (B : Nat → Nat) (n z j : Nat) : Nat := if j < z then tK B n j else 34
noncomputable def pG (B : Nat → Nat) (n z j : Nat) : Nat := if j < z then tP B n j else n
/-- what the check stands on -/
def gEn (m : Me) (B : Nat → Nat) (n z : Nat) : Prop := n ≤ 2000 ∧ Wf2 m.1 (gR m) 8 ∧ Wf10 m.1 (gR m) 3 ∧ Tkd m B n z ∧ gI m 3 5 = nI n
/-- the class's memory stands as the machine's state says -/
def GC (m0 m : Me) (p : Nat → Nat) (s : Nat × Nat) : Prop := Fx (fun x => x = 3 ∨ x = 8 ∨ x = 9) (fun _ => False) m0 m ∧ (∀ k, k ≠ 6 → k ≠ 7 → gI m 3 k = gI m0 3 k) ∧ (s.1 = 0 → gI m 3 6 = nI 0 ∧ gI m 3 7 = -1 ∧ gI m 8 1 = nI s.2) ∧ (s.1 ≠ 0 → gI m 3 6 = nI s.1 ∧ gI m 3 7 = nI (p s.2)) ∧ s.1 ≤ 9 ∧ s.2 ≤ 400 ∧ ∃ a, a ≤ 400 ∧ gI m 8 1 = nI a
theorem kG_le {B : Nat → Nat} {n z j : Nat} : kG B n z j ≤ 35 := by
  unfold kG
  split
  · exact tkK_le
  · omega
theorem nI_i {a b : Nat} (h : nI a = nI b) (ha : a < 2 ^ 31) (hb : b < 2 ^ 31) : a = b := by
  have := congrArg Int32.toInt h
  rw [nI_toInt ha, nI_toInt hb] at this
  omega
section GRC
variable {m0 m : Me} {B : Nat → Nat} {n z : Nat} {s : Nat × Nat}
theorem gEn.s1 (e : gEn m0 B n z) (h : GC m0 m (pG B n z) s) : gI m 3 4 = nI z := (h.2.1 4 (by decide) (by decide)).trans e.2.2.2.1.1.1
theorem gEn.to (e : gEn m0 B n z) (h : GC m0 m (pG B n z) s) : Wf2 m.1 (gR m) 8 ∧ Wf10 m.1 (gR m) 3 := ⟨h.1.to (F := fun q r => Wf2 q r 8) e.2.1, h.1.to (F := fun q r => Wf10 q r 3) e.2.2.1⟩
theorem gc_a (h : GC m0 m (pG B n z) s) {a : Nat} (ha : a ≤ 400) (hm : gI m 8 1 = nI a) (h0 : s.1 = 0) : a = s.2 := nI_i (hm.symm.trans (h.2.2.1 h0).2.2) (by omega) (by have := h.2.2.2.2.2.1; omega)
theorem GC.fl {c a : Nat} (h : GC m0 m (pG B n z) s) (ha : a ≤ 400) (hm : gI m 8 1 = nI a) (hc : 0 < c ∧ c ≤ 9) {m' : Me} (e : m' = if gI m 3 6 = nI 0 then sI (sI m 3 (upd (gI m 3) 6 (nI c))) 3 (upd (gI (sI m 3 (upd (gI m 3) 6 (nI c))) 3) 7 (nI (pG B n z a))) else m) : GC m0 m' (pG B n z) (gFl c s) ∧ gI m' 9 = gI m 9 ∧ gI m' 8 = gI m 8 := by
  obtain ⟨h1, h2, h3, h4, h5, h6, h7⟩ := id h
  by_cases z0 : s.1 = 0
  · rw [if_pos (h3 z0).1] at e
    subst e
    have has := gc_a h ha hm z0
    rw [show gFl c s = (c, s.2) from if_neg (fun q => q z0)]
    refine ⟨⟨Fx.I (Fx.I h1 (Or.inl rfl)) (Or.inl rfl), fun k k6 k7 => ?_, fun q => absurd q (by show ¬ c = 0; omega), fun _ => ?_, hc.2, h6, h7⟩, rfl, rfl⟩
    · rw [gI_s, gI_s, upd_ne k7, upd_ne k6]; exact h2 k k6 k7
    · rw [gI_s, gI_s, upd_ne (by decide), upd_same, upd_same, has]; exact ⟨rfl, rfl⟩
  · rw [if_neg (fun q => z0 (nI_i ((h4 z0).1.symm.trans q) (by omega) (by decide)))] at e
    subst e
    rw [show gFl c s = s from if_pos z0]
    exact ⟨h, rfl, rfl⟩
theorem GC.up {a : Nat} (h : GC m0 m (pG B n z) s) (ha : a < 400) (hm : gI m 8 1 = nI a) : GC m0 (sI m 8 (upd (gI m 8) 1 (nI (a + 1)))) (pG B n z) (if s.1 ≠ 0 then s else (0, s.2 + 1)) := by
  obtain ⟨h1, h2, h3, h4, h5, h6, h7⟩ := id h
  refine ⟨Fx.I h1 (Or.inr (Or.inl rfl)), h2, ?_⟩
  by_cases z0 : s.1 = 0
  · have has := gc_a h (by omega) hm z0
    rw [if_neg (fun q => q z0)]
    refine ⟨fun _ => ⟨(h3 z0).1, (h3 z0).2.1, ?_⟩, fun q => absurd rfl q, by show 0 ≤ 9; omega, by show s.2 + 1 ≤ 400; omega, a + 1, by omega, ?_⟩
    · rw [gI_s, upd_same, has]
    · rw [gI_s, upd_same]
  · rw [if_pos z0]
    exact ⟨fun q => absurd q z0, fun q => h4 q, h5, h6, a + 1, by omega, by rw [gI_s, upd_same]⟩
theorem ev_gk {a : Nat} (e : gEn m0 B n z) (h : GC m0 m (pG B n z) s) (ha : a ≤ 400) : Ev mX10_kindAt [.ref 3, .int (nI a)] m (fun o m' => o = some (.int (nI (kG B n z a))) ∧ m' = m) := by
  have hz := e.2.2.2.1.2.2.2.1
  have h5 : gI m 5 = gI m0 5 := h.1.at (by decide)
  refine (ev_kindAt (e.to h).2 (e.s1 h) hz (by omega)).mono (fun o m' q => ⟨q.1.trans ?_, q.2⟩)
  unfold kG
  by_cases g : a < z
  · rw [if_pos g, if_pos g, h5, (e.2.2.2.1.1.2 a g).1]
  · rw [if_neg g, if_neg g]
theorem ev_gp {a : Nat} (e : gEn m0 B n z) (h : GC m0 m (pG B n z) s) (ha : a ≤ 400) : Ev mX10_placeAt [.ref 3, .int (nI a)] m (fun o m' => o = some (.int (nI (pG B n z a))) ∧ m' = m) := by
  have hz := e.2.2.2.1.2.2.2.1
  have h7 : gI m 7 = gI m0 7 := h.1.at (by decide)
  refine (ev_placeAt (e.to h).2 (e.s1 h) hz (by omega)).mono (fun o m' q => ⟨q.1.trans ?_, q.2⟩)
  unfold pG
  by_cases g : a < z
  · rw [if_pos g, if_pos g, h7, (e.2.2.2.1.1.2 a g).2.1]
  · rw [if_neg g, if_neg g, h.2.1 5 (by decide) (by decide), e.2.2.2.2]
theorem gTk_1 {K : Nat → Nat} {k : Nat} (h : s.1 = 0 → K s.2 ≠ k) : gFl 1 s = gTk K k s := by
  unfold gFl gTk
  by_cases q : s.1 = 0
  · rw [if_neg (fun w => w q), if_neg (fun w => w q), if_pos (h q)]
  · rw [if_pos q, if_pos q]
theorem gTk_2 {K : Nat → Nat} {k : Nat} (h : s.1 = 0 → K s.2 = k ∧ 400 ≤ s.2) : gFl 2 s = gTk K k s := by
  unfold gFl gTk
  by_cases q : s.1 = 0
  · rw [if_neg (fun w => w q), if_neg (fun w => w q), if_neg (fun w => w (h q).1), if_pos (h q).2]
  · rw [if_pos q, if_pos q]
theorem gTk_0 {K : Nat → Nat} {k : Nat} (h : s.1 = 0 → K s.2 = k ∧ s.2 < 400) : (if s.1 ≠ 0 then s else (0, s.2 + 1)) = gTk K k s := by
  unfold gTk
  by_cases q : s.1 = 0
  · rw [if_neg (fun w => w q), if_neg (fun w => w q), if_neg (fun w => w (h q).1), if_neg (by have := (h q).2; omega)]
  · rw [if_pos q, if_pos q]
end GRC
set_option maxRecDepth 100000 in
set_option maxHeartbeats 8000000 in
theorem ev_gtake {m0 m : Me} {B : Nat → Nat} {n z : Nat} {s : Nat × Nat} (e : gEn m0 B n z) (h : GC m0 m (pG B n z) s) {k : Nat} (hk : k ≤ 100) : Ev mX2_take [.ref 8, .ref 3, .int (nI k)] m (fun o m' => o = none ∧ GC m0 m' (pG B n z) (gTk (kG B n z) k s) ∧ gI m' 9 = gI m 9) := by
  refine ⟨plmX2_take, nle rfl, ?_⟩
  obtain ⟨a, ha, hm⟩ := h.2.2.2.2.2.2
  have hg := (e.to h).1
  have hw := (e.to h).2
  have hk35 : kG B n z a ≤ 35 := kG_le
  refine go_aload_n (q := 1) (i := 1) rfl rfl dX2_take_0 ?_
  refine go_aload_n (q := 0) (i := 0) rfl rfl dX2_take_1 ?_
  refine go_getI lf2_15 rfl hg.o dX2_take_2 ?_
  rw [hm]
  refine go_callV okmX10_kindAt lmX2_28 ⟨nle rfl, nle rfl⟩ hw.o ⟨by decide, rfl⟩ (ev_gk e h ha) npmX10_kindAt rfl (nle rfl) ⟨nle rfl, nle rfl⟩ dX2_take_5 ?_
  rintro _ mz ⟨rfl, hz⟩
  subst mz
  refine go_c1 ?_
  refine go_iload_n (q := 2) (i := 2) rfl rfl dX2_take_8 ?_
  refine gn_eq (by omega) (by omega) (tgt := 28) dX2_take_9 (by decide) (fun h9 => ?_) (fun h9 => ?_)
  · skip
    refine go_aload_n (q := 0) (i := 0) rfl rfl dX2_take_28 ?_
    refine go_getI lf2_15 rfl hg.o dX2_take_29 ?_
    rw [hm]
    refine go_sipush (v := nI 400) (by decide) dX2_take_32 ?_
    refine gn_lt (by omega) (by omega) (tgt := 54) dX2_take_35 (by decide) (fun h35 => ?_) (fun h35 => ?_)
    · skip
      refine go_aload_n (q := 0) (i := 0) rfl rfl dX2_take_54 ?_
      refine go_dup rfl dX2_take_55 ?_
      refine go_getI lf2_15 rfl hg.o dX2_take_56 ?_
      rw [hm]
      refine go_iconst (v := nI 1) (by decide) dX2_take_59 ?_
      refine gn_add dX2_take_60 ?_
      refine go_putI lf2_15 rfl (Or.inl rfl) hg.o dX2_take_61 ?_
      refine go_vret rfl ⟨Nat.zero_le _, Nat.zero_le _⟩ dX2_take_64 ?_
      rw [← gTk_0 (fun q => by rw [← gc_a h ha hm q]; exact ⟨h9, by omega⟩)]
      exact ⟨rfl, h.up (by omega) hm, rfl⟩
    · skip
      refine go_aload_n (q := 1) (i := 1) rfl rfl dX2_take_38 ?_
      refine go_iconst (v := nI 2) (by decide) dX2_take_39 ?_
      refine go_aload_n (q := 1) (i := 1) rfl rfl dX2_take_40 ?_
      refine go_aload_n (q := 0) (i := 0) rfl rfl dX2_take_41 ?_
      refine go_getI lf2_15 rfl hg.o dX2_take_42 ?_
      rw [hm]
      refine go_callV okmX10_placeAt lmX2_36 ⟨nle rfl, nle rfl⟩ hw.o ⟨by decide, rfl⟩ (ev_gp e h ha) npmX10_placeAt rfl (nle rfl) ⟨nle rfl, nle rfl⟩ dX2_take_45 ?_
      rintro _ mz ⟨rfl, hz⟩
      subst mz
      refine go_c1 ?_
      refine go_callV okmX10_fail lmX2_39 ⟨nle rfl, nle rfl⟩ hw.o ⟨by decide, rfl⟩ (ev_fail hw) npmX10_fail rfl (nle rfl) ⟨nle rfl, nle rfl⟩ dX2_take_48 ?_
      rintro _ m1 ⟨rfl, he⟩
      obtain ⟨f1, f2, f3⟩ := h.fl ha hm (c := 2) (by decide) he
      refine go_c0 ?_
      refine go_goto (tgt := 64) dX2_take_51 (by decide) ?_
      refine go_vret rfl ⟨Nat.zero_le _, Nat.zero_le _⟩ dX2_take_64 ?_
      rw [← gTk_2 (fun q => by rw [← gc_a h ha hm q]; exact ⟨h9, by omega⟩)]
      exact ⟨rfl, f1, f2⟩
  · skip
    refine go_aload_n (q := 1) (i := 1) rfl rfl dX2_take_12 ?_
    refine go_iconst (v := nI 1) (by decide) dX2_take_13 ?_
    refine go_aload_n (q := 1) (i := 1) rfl rfl dX2_take_14 ?_
    refine go_aload_n (q := 0) (i := 0) rfl rfl dX2_take_15 ?_
    refine go_getI lf2_15 rfl hg.o dX2_take_16 ?_
    rw [hm]
    refine go_callV okmX10_placeAt lmX2_36 ⟨nle rfl, nle rfl⟩ hw.o ⟨by decide, rfl⟩ (ev_gp e h ha) npmX10_placeAt rfl (nle rfl) ⟨nle rfl, nle rfl⟩ dX2_take_19 ?_
    rintro _ mz ⟨rfl, hz⟩
    subst mz
    refine go_c1 ?_
    refine go_callV okmX10_fail lmX2_39 ⟨nle rfl, nle rfl⟩ hw.o ⟨by decide, rfl⟩ (ev_fail hw) npmX10_fail rfl (nle rfl) ⟨nle rfl, nle rfl⟩ dX2_take_22 ?_
    rintro _ m1 ⟨rfl, he⟩
    obtain ⟨f1, f2, f3⟩ := h.fl ha hm (c := 1) (by decide) he
    refine go_c0 ?_
    refine go_goto (tgt := 64) dX2_take_25 (by decide) ?_
    refine go_vret rfl ⟨Nat.zero_le _, Nat.zero_le _⟩ dX2_take_64 ?_
    rw [← gTk_1 (fun q => by rw [← gc_a h ha hm q]; exact h9)]
    exact ⟨rfl, f1, f2⟩
set_option maxRecDepth 100000 in
set_option maxHeartbeats 8000000 in
theorem ev_gmany {m0 m : Me} {B : Nat → Nat} {n z : Nat} {s : Nat × Nat} (e : gEn m0 B n z) (h : GC m0 m (pG B n z) s) {k w : Nat} (hk : k ≤ 100) (hw9 : w ≤ 100) : Ev mX2_takeMany [.ref 8, .ref 3, .int (nI k), .int (nI w)] m (fun o m' => o = none ∧ GC m0 m' (pG B n z) (gMany (kG B n z) k w s) ∧ gI m' 9 = gI m 9) := by
  refine ⟨plmX2_takeMany, nle rfl, ?_⟩
  have key : ∀ i, i ≤ w → ∀ m1 : Me, GC m0 m1 (pG B n z) (gMany (kG B n z) k i s) → gI m1 9 = gI m 9 → Go mX2_takeMany (fun o m' => o = none ∧ GC m0 m' (pG B n z) (gMany (kG B n z) k w s) ∧ gI m' 9 = gI m 9) 3 [some (.ref 8), some (.ref 3), some (.int (nI k)), some (.int (nI w)), some (.int (nI i))] [] m1 0 0 := by
    refine loop_up w ?_ ?_
    · intro m1 h h9
      have hg := (e.to h).1
      refine go_iload (i := 4) rfl dX2_takeMany_3 ?_
      refine go_iload_n (q := 3) (i := 3) rfl rfl dX2_takeMany_5 ?_
      refine gn_ge (by omega) (by omega) (tgt := 21) dX2_takeMany_6 (by decide) (fun h6 => ?_) (fun h6 => by exfalso; omega)
      refine go_vret rfl ⟨Nat.zero_le _, Nat.zero_le _⟩ dX2_takeMany_21 ?_
      exact ⟨rfl, h, h9⟩
    · intro i hi ih m1 h h9
      have hg := (e.to h).1
      refine go_iload (i := 4) rfl dX2_takeMany_3 ?_
      refine go_iload_n (q := 3) (i := 3) rfl rfl dX2_takeMany_5 ?_
      refine gn_ge (by omega) (by omega) (tgt := 21) dX2_takeMany_6 (by decide) (fun h6 => by exfalso; omega) (fun h6 => ?_)
      refine go_aload_n (q := 0) (i := 0) rfl rfl dX2_takeMany_9 ?_
      refine go_aload_n (q := 1) (i := 1) rfl rfl dX2_takeMany_10 ?_
      refine go_iload_n (q := 2) (i := 2) rfl rfl dX2_takeMany_11 ?_
      refine go_callV okmX2_take lmX2_46 ⟨nle rfl, nle rfl⟩ hg.o ⟨by decide, rfl⟩ (ev_gtake e h hk) npmX2_take rfl (nle rfl) ⟨nle rfl, nle rfl⟩ dX2_takeMany_12 ?_
      rintro _ m2 ⟨rfl, h2, h3⟩
      refine go_c0 ?_
      refine gn_inc (i := 4) (a := i) (q := 1) rfl dX2_takeMany_15 (nle rfl) rfl ?_
      refine go_goto (tgt := 3) dX2_takeMany_18 (by decide) ?_
      exact ih m2 h2 (h3.trans h9)
  refine go_iconst (v := nI 0) (by decide) dX2_takeMany_0 ?_
  refine go_istore (i := 4) dX2_takeMany_1 (nle rfl) (nle rfl) ?_
  exact key 0 (Nat.zero_le _) m h rfl
set_option maxRecDepth 100000 in
set_option maxHeartbeats 4000000 in
theorem ev_isUnit {m : Me} {k : Nat} (hk : k ≤ 100) : Ev mX2_isUnit [.int (nI k)] m (fun o m' => o = some (.int (if isU k then nI 1 else nI 0)) ∧ m' = m) := by
  refine ⟨plmX2_isUnit, nle rfl, ?_⟩
  refine go_iload_n (q := 0) (i := 0) rfl rfl dX2_isUnit_0 ?_
  refine go_bipush (v := nI 24) (by decide) dX2_isUnit_1 ?_
  refine gn_eq (by omega) (by omega) (tgt := 18) dX2_isUnit_3 (by decide) (fun h3 => ?_) (fun h3 => ?_)
  · skip
    refine go_iconst (v := nI 1) (by decide) dX2_isUnit_18 ?_
    refine go_goto (tgt := 23) dX2_isUnit_19 (by decide) ?_
    refine go_zret rfl (by decide) ⟨Nat.zero_le _, Nat.zero_le _⟩ dX2_isUnit_23 ?_
    exact ⟨by rw [if_pos (by omega)], rfl⟩
  · skip
    refine go_iload_n (q := 0) (i := 0) rfl rfl dX2_isUnit_6 ?_
    refine go_bipush (v := nI 14) (by decide) dX2_isUnit_7 ?_
    refine gn_lt (by omega) (by omega) (tgt := 22) dX2_isUnit_9 (by decide) (fun h9 => ?_) (fun h9 => ?_)
    · skip
      refine go_iconst (v := nI 0) (by decide) dX2_isUnit_22 ?_
      refine go_zret rfl (by decide) ⟨Nat.zero_le _, Nat.zero_le _⟩ dX2_isUnit_23 ?_
      exact ⟨by rw [if_neg (by omega)], rfl⟩
    · skip
      refine go_iload_n (q := 0) (i := 0) rfl rfl dX2_isUnit_12 ?_
      refine go_bipush (v := nI 22) (by decide) dX2_isUnit_13 ?_
      refine gn_gt (by omega) (by omega) (tgt := 22) dX2_isUnit_15 (by decide) (fun h15 => ?_) (fun h15 => ?_)
      · skip
        refine go_iconst (v := nI 0) (by decide) dX2_isUnit_22 ?_
        refine go_zret rfl (by decide) ⟨Nat.zero_le _, Nat.zero_le _⟩ dX2_isUnit_23 ?_
        exact ⟨by rw [if_neg (by omega)], rfl⟩
      · skip
        refine go_iconst (v := nI 1) (by decide) dX2_isUnit_18 ?_
        refine go_goto (tgt := 23) dX2_isUnit_19 (by decide) ?_
        refine go_zret rfl (by decide) ⟨Nat.zero_le _, Nat.zero_le _⟩ dX2_isUnit_23 ?_
        exact ⟨by rw [if_pos (by omega)], rfl⟩
set_option maxRecDepth 100000 in
set_option maxHeartbeats 4000000 in
theorem ev_isOper {m : Me} {k : Nat} (hk : k ≤ 100) : Ev mX2_isOperator [.int (nI k)] m (fun o m' => o = some (.int (if isOp k then nI 1 else nI 0)) ∧ m' = m) := by
  refine ⟨plmX2_isOperator, nle rfl, ?_⟩
  refine go_iload_n (q := 0) (i := 0) rfl rfl dX2_isOperator_0 ?_
  refine go_bipush (v := nI 27) (by decide) dX2_isOperator_1 ?_
  refine gn_lt (by omega) (by omega) (tgt := 16) dX2_isOperator_3 (by decide) (fun h3 => ?_) (fun h3 => ?_)
  · skip
    refine go_iconst (v := nI 0) (by decide) dX2_isOperator_16 ?_
    refine go_zret rfl (by decide) ⟨Nat.zero_le _, Nat.zero_le _⟩ dX2_isOperator_17 ?_
    exact ⟨by rw [if_neg (by omega)], rfl⟩
  · skip
    refine go_iload_n (q := 0) (i := 0) rfl rfl dX2_isOperator_6 ?_
    refine go_bipush (v := nI 30) (by decide) dX2_isOperator_7 ?_
    refine gn_gt (by omega) (by omega) (tgt := 16) dX2_isOperator_9 (by decide) (fun h9 => ?_) (fun h9 => ?_)
    · skip
      refine go_iconst (v := nI 0) (by decide) dX2_isOperator_16 ?_
      refine go_zret rfl (by decide) ⟨Nat.zero_le _, Nat.zero_le _⟩ dX2_isOperator_17 ?_
      exact ⟨by rw [if_neg (by omega)], rfl⟩
    · skip
      refine go_iconst (v := nI 1) (by decide) dX2_isOperator_12 ?_
      refine go_goto (tgt := 17) dX2_isOperator_13 (by decide) ?_
      refine go_zret rfl (by decide) ⟨Nat.zero_le _, Nat.zero_le _⟩ dX2_isOperator_17 ?_
      exact ⟨by rw [if_pos (by omega)], rfl⟩
def nmO (k : Nat) : Nat := if k = 2 then 2 else if k ≤ 1 then 1 else 0
def nuO (k : Nat) : Nat := if k = 2 ∨ k = 3 then 3 else if k = 0 then 0 else if k = 1 then 2 else 1
def moO (k : Nat) : Nat := if k = 0 then 5 else if k = 1 then 4 else if k = 2 then 6 else 12
set_option maxRecDepth 100000 in
set_option maxHeartbeats 4000000 in
theorem ev_namesOf {m : Me} {k : Nat} (hk : k ≤ 100) : Ev mX2_namesOf [.int (nI k)] m (fun o m' => o = some (.int (nI (nmO k))) ∧ m' = m) := by
  refine ⟨plmX2_namesOf, nle rfl, ?_⟩
  refine go_iload_n (q := 0) (i := 0) rfl rfl dX2_namesOf_0 ?_
  refine go_iconst (v := nI 2) (by decide) dX2_namesOf_1 ?_
  refine gn_ne (by omega) (by omega) (tgt := 9) dX2_namesOf_2 (by decide) (fun h2 => ?_) (fun h2 => ?_)
  · skip
    refine go_iload_n (q := 0) (i := 0) rfl rfl dX2_namesOf_9 ?_
    refine go_iconst (v := nI 1) (by decide) dX2_namesOf_10 ?_
    refine gn_gt (by omega) (by omega) (tgt := 18) dX2_namesOf_11 (by decide) (fun h11 => ?_) (fun h11 => ?_)
    · skip
      refine go_iconst (v := nI 0) (by decide) dX2_namesOf_18 ?_
      refine go_iret rfl ⟨Nat.zero_le _, Nat.zero_le _⟩ dX2_namesOf_19 ?_
      refine ⟨?_, rfl⟩
      unfold nmO
      rw [if_neg (by omega), if_neg (by omega)]
    · skip
      refine go_iconst (v := nI 1) (by decide) dX2_namesOf_14 ?_
      refine go_goto (tgt := 19) dX2_namesOf_15 (by decide) ?_
      refine go_iret rfl ⟨Nat.zero_le _, Nat.zero_le _⟩ dX2_namesOf_19 ?_
      refine ⟨?_, rfl⟩
      unfold nmO
      rw [if_neg (by omega), if_pos (by omega)]
  · skip
    refine go_iconst (v := nI 2) (by decide) dX2_namesOf_5 ?_
    refine go_goto (tgt := 19) dX2_namesOf_6 (by decide) ?_
    refine go_iret rfl ⟨Nat.zero_le _, Nat.zero_le _⟩ dX2_namesOf_19 ?_
    refine ⟨?_, rfl⟩
    unfold nmO
    rw [if_pos (by omega)]
set_option maxRecDepth 100000 in
set_option maxHeartbeats 4000000 in
theorem ev_numbersOf {m : Me} {k : Nat} (hk : k ≤ 100) : Ev mX2_numbersOf [.int (nI k)] m (fun o m' => o = some (.int (nI (nuO k))) ∧ m' = m) := by
  refine ⟨plmX2_numbersOf, nle rfl, ?_⟩
  refine go_iload_n (q := 0) (i := 0) rfl rfl dX2_numbersOf_0 ?_
  refine go_iconst (v := nI 2) (by decide) dX2_numbersOf_1 ?_
  refine gn_eq (by omega) (by omega) (tgt := 10) dX2_numbersOf_2 (by decide) (fun h2 => ?_) (fun h2 => ?_)
  · skip
    refine go_iconst (v := nI 3) (by decide) dX2_numbersOf_10 ?_
    refine go_iret rfl ⟨Nat.zero_le _, Nat.zero_le _⟩ dX2_numbersOf_11 ?_
    refine ⟨?_, rfl⟩
    unfold nuO
    rw [if_pos (by omega)]
  · skip
    refine go_iload_n (q := 0) (i := 0) rfl rfl dX2_numbersOf_5 ?_
    refine go_iconst (v := nI 3) (by decide) dX2_numbersOf_6 ?_
    refine gn_ne (by omega) (by omega) (tgt := 12) dX2_numbersOf_7 (by decide) (fun h7 => ?_) (fun h7 => ?_)
    · skip
      refine go_iload_n (q := 0) (i := 0) rfl rfl dX2_numbersOf_12 ?_
      refine gz_ne (by omega) (tgt := 20) dX2_numbersOf_13 (by decide) (fun h13 => ?_) (fun h13 => ?_)
      · skip
        refine go_iload_n (q := 0) (i := 0) rfl rfl dX2_numbersOf_20 ?_
        refine go_iconst (v := nI 1) (by decide) dX2_numbersOf_21 ?_
        refine gn_ne (by omega) (by omega) (tgt := 29) dX2_numbersOf_22 (by decide) (fun h22 => ?_) (fun h22 => ?_)
        · skip
          refine go_iconst (v := nI 1) (by decide) dX2_numbersOf_29 ?_
          refine go_iret rfl ⟨Nat.zero_le _, Nat.zero_le _⟩ dX2_numbersOf_30 ?_
          refine ⟨?_, rfl⟩
          unfold nuO
          rw [if_neg (by omega), if_neg (by omega), if_neg (by omega)]
        · skip
          refine go_iconst (v := nI 2) (by decide) dX2_numbersOf_25 ?_
          refine go_goto (tgt := 30) dX2_numbersOf_26 (by decide) ?_
          refine go_iret rfl ⟨Nat.zero_le _, Nat.zero_le _⟩ dX2_numbersOf_30 ?_
          refine ⟨?_, rfl⟩
          unfold nuO
          rw [if_neg (by omega), if_neg (by omega), if_pos (by omega)]
      · skip
        refine go_iconst (v := nI 0) (by decide) dX2_numbersOf_16 ?_
        refine go_goto (tgt := 30) dX2_numbersOf_17 (by decide) ?_
        refine go_iret rfl ⟨Nat.zero_le _, Nat.zero_le _⟩ dX2_numbersOf_30 ?_
        refine ⟨?_, rfl⟩
        unfold nuO
        rw [if_neg (by omega), if_pos (by omega)]
    · skip
      refine go_iconst (v := nI 3) (by decide) dX2_numbersOf_10 ?_
      refine go_iret rfl ⟨Nat.zero_le _, Nat.zero_le _⟩ dX2_numbersOf_11 ?_
      refine ⟨?_, rfl⟩
      unfold nuO
      rw [if_pos (by omega)]
set_option maxRecDepth 100000 in
set_option maxHeartbeats 4000000 in
theorem ev_mostOf {m : Me} {k : Nat} (hk : k ≤ 100) : Ev mX2_mostOf [.int (nI k)] m (fun o m' => o = some (.int (nI (moO k))) ∧ m' = m) := by
  refine ⟨plmX2_mostOf, nle rfl, ?_⟩
  refine go_iload_n (q := 0) (i := 0) rfl rfl dX2_mostOf_0 ?_
  refine go_iconst (v := nI 1) (by decide) dX2_mostOf_1 ?_
  refine gn_gt (by omega) (by omega) (tgt := 15) dX2_mostOf_2 (by decide) (fun h2 => ?_) (fun h2 => ?_)
  · skip
    refine go_iload_n (q := 0) (i := 0) rfl rfl dX2_mostOf_15 ?_
    refine go_iconst (v := nI 2) (by decide) dX2_mostOf_16 ?_
    refine gn_ne (by omega) (by omega) (tgt := 25) dX2_mostOf_17 (by decide) (fun h17 => ?_) (fun h17 => ?_)
    · skip
      refine go_bipush (v := nI 12) (by decide) dX2_mostOf_25 ?_
      refine go_iret rfl ⟨Nat.zero_le _, Nat.zero_le _⟩ dX2_mostOf_27 ?_
      refine ⟨?_, rfl⟩
      unfold moO
      rw [if_neg (by omega), if_neg (by omega), if_neg (by omega)]
    · skip
      refine go_bipush (v := nI 6) (by decide) dX2_mostOf_20 ?_
      refine go_goto (tgt := 27) dX2_mostOf_22 (by decide) ?_
      refine go_iret rfl ⟨Nat.zero_le _, Nat.zero_le _⟩ dX2_mostOf_27 ?_
      refine ⟨?_, rfl⟩
      unfold moO
      rw [if_neg (by omega), if_neg (by omega), if_pos (by omega)]
  · skip
    refine go_iload_n (q := 0) (i := 0) rfl rfl dX2_mostOf_5 ?_
    refine gz_ne (by omega) (tgt := 13) dX2_mostOf_6 (by decide) (fun h6 => ?_) (fun h6 => ?_)
    · skip
      refine go_iconst (v := nI 4) (by decide) dX2_mostOf_13 ?_
      refine go_iret rfl ⟨Nat.zero_le _, Nat.zero_le _⟩ dX2_mostOf_14 ?_
      refine ⟨?_, rfl⟩
      unfold moO
      rw [if_neg (by omega), if_pos (by omega)]
    · skip
      refine go_iconst (v := nI 5) (by decide) dX2_mostOf_9 ?_
      refine go_goto (tgt := 14) dX2_mostOf_10 (by decide) ?_
      refine go_iret rfl ⟨Nat.zero_le _, Nat.zero_le _⟩ dX2_mostOf_14 ?_
      refine ⟨?_, rfl⟩
      unfold moO
      rw [if_pos (by omega)]
