/-- what is the same: all but the ints A, the longs J -/
def Fx (A J : Nat → Prop) (m m' : Me) : Prop := m'.1 = m.1 ∧ gR m' = gR m ∧ (∀ x, ¬ A x → gI m' x = gI m x) ∧ ∀ x, ¬ J x → gJ m' x = gJ m x
theorem Fx.rf {A J : Nat → Prop} {m : Me} : Fx A J m m := ⟨rfl, rfl, fun _ _ => rfl, fun _ _ => rfl⟩
theorem Fx.tr {A J : Nat → Prop} {m m' m'' : Me} (h : Fx A J m m') (k : Fx A J m' m'') : Fx A J m m'' := ⟨k.1.trans h.1, k.2.1.trans h.2.1, fun x z => (k.2.2.1 x z).trans (h.2.2.1 x z), fun x z => (k.2.2.2 x z).trans (h.2.2.2 x z)⟩
theorem Fx.I {A J : Nat → Prop} {m m' : Me} {a : Nat} {r : Nat → Int32} (c : Fx A J m m') (h : A a) : Fx A J m (sI m' a r) := ⟨c.1, c.2.1, fun x z => (gI_n (fun q => z (by rw [q]; exact h))).trans (c.2.2.1 x z), c.2.2.2⟩
theorem Fx.J {A J : Nat → Prop} {m m' : Me} {a : Nat} {r : Nat → Int64} (c : Fx A J m m') (h : J a) : Fx A J m (sJ m' a r) := ⟨c.1, c.2.1, c.2.2.1, fun x z => (gJ_n (fun q => z (by rw [q]; exact h))).trans (c.2.2.2 x z)⟩
theorem Fx.to {A J : Nat → Prop} {m m' : Me} {F : Nat → (Nat → Nat → Option Nat) → Prop} (c : Fx A J m m') (h : F m.1 (gR m)) : F m'.1 (gR m') := by rw [c.1, c.2.1]; exact h
theorem Fx.at {A J : Nat → Prop} {m m' : Me} (c : Fx A J m m') {x : Nat} (h : ¬ A x) : gI m' x = gI m x := c.2.2.1 x h
theorem Fx.aj {A J : Nat → Prop} {m m' : Me} (c : Fx A J m m') {x : Nat} (h : ¬ J x) : gJ m' x = gJ m x := c.2.2.2 x h
theorem Fx.mn {A J A' J' : Nat → Prop} {m m' : Me} (c : Fx A J m m') (h : ∀ x, A x → A' x) (k : ∀ x, J x → J' x) : Fx A' J' m m' := ⟨c.1, c.2.1, fun x z => c.at (fun q => z (h x q)), fun x z => c.aj (fun q => z (k x q))⟩
theorem Fx.ch {A J : Nat → Prop} {m m' : Me} (c : Ch A m m') : Fx A J m m' := ⟨c.1, c.2.2.1, fun x z => c.at z, fun x _ => by rw [c.2.1]⟩
def bS (B : Nat → Nat) (n i : Nat) : Int32 := if i < n then nI (B i) else -1
def ltS (v : Int32) : Int32 := if v < nI 97 then nI 0 else if nI 122 < v then nI 0 else nI 1
def dgS (v : Int32) : Int32 := if v < nI 48 then nI 0 else if nI 57 < v then nI 0 else nI 1
def bkS (v : Int32) : Int32 := if v = nI 9 then nI 1 else if v = nI 10 then nI 1 else if v = nI 13 then nI 1 else if v = nI 32 then nI 1 else nI 0
theorem ltS_n {c : Nat} (h : c < 256) : ltS (nI c) = pit (isLt c) (nI 1) (nI 0) := by
  unfold ltS
  by_cases h1 : c < 97
  · rw [if_pos (by rw [nI_ltI (by omega) (by omega)]; exact h1), pit_f (fun z => by unfold isLt at z; omega)]
  · rw [if_neg (by rw [nI_ltI (by omega) (by omega)]; exact h1)]
    by_cases h2 : 122 < c
    · rw [if_pos (by rw [nI_ltI (by omega) (by omega)]; exact h2), pit_f (fun z => by unfold isLt at z; omega)]
    · rw [if_neg (by rw [nI_ltI (by omega) (by omega)]; exact h2), pit_t (show isLt c from ⟨by omega, by omega⟩)]
theorem dgS_n {c : Nat} (h : c < 256) : dgS (nI c) = pit (isDg c) (nI 1) (nI 0) := by
  unfold dgS
  by_cases h1 : c < 48
  · rw [if_pos (by rw [nI_ltI (by omega) (by omega)]; exact h1), pit_f (fun z => by unfold isDg at z; omega)]
  · rw [if_neg (by rw [nI_ltI (by omega) (by omega)]; exact h1)]
    by_cases h2 : 57 < c
    · rw [if_pos (by rw [nI_ltI (by omega) (by omega)]; exact h2), pit_f (fun z => by unfold isDg at z; omega)]
    · rw [if_neg (by rw [nI_ltI (by omega) (by omega)]; exact h2), pit_t (show isDg c from ⟨by omega, by omega⟩)]
theorem bkS_n {c : Nat} (h : c < 256) : bkS (nI c) = pit (isBk c) (nI 1) (nI 0) := by
  have e : ∀ d, d < 256 → (nI c = nI d ↔ c = d) := fun d hd => nI_eq (by omega) (by omega)
  unfold bkS
  simp only [e 9 (by decide), e 10 (by decide), e 13 (by decide), e 32 (by decide)]
  by_cases h1 : isBk c
  · rw [pit_t h1]
    rcases h1 with h | h | h | h <;> subst h <;> decide
  · rw [pit_f h1]
    unfold isBk at h1
    rw [if_neg (by omega), if_neg (by omega), if_neg (by omega), if_neg (by omega)]
def B8 (B : Nat → Nat) : Prop := ∀ i, B i < 256
theorem lt_b {B : Nat → Nat} {n i : Nat} (h : B8 B) : ltS (bS B n i) = pit (inP B n isLt i) (nI 1) (nI 0) := by
  unfold bS
  by_cases q : i < n
  · rw [if_pos q, ltS_n (h i)]; exact pit_e ⟨fun z => ⟨q, z⟩, fun z => z.2⟩
  · rw [if_neg q, pit_f (fun z => q z.1)]; decide
theorem dg_b {B : Nat → Nat} {n i : Nat} (h : B8 B) : dgS (bS B n i) = pit (inP B n isDg i) (nI 1) (nI 0) := by
  unfold bS
  by_cases q : i < n
  · rw [if_pos q, dgS_n (h i)]; exact pit_e ⟨fun z => ⟨q, z⟩, fun z => z.2⟩
  · rw [if_neg q, pit_f (fun z => q z.1)]; decide
theorem bk_b {B : Nat → Nat} {n i : Nat} (h : B8 B) : bkS (bS B n i) = pit (inP B n isBk i) (nI 1) (nI 0) := by
  unfold bS
  by_cases q : i < n
  · rw [if_pos q, bkS_n (h i)]; exact pit_e ⟨fun z => ⟨q, z⟩, fun z => z.2⟩
  · rw [if_neg q, pit_f (fun z => q z.1)]; decide
def keyS (k : Int64) (c : Int32) : Int64 := (k <<< ((nI 5).toInt64 &&& 63)) ||| (c - nI 97 + nI 1).toInt64
theorem keyS_n {k c : Nat} (hk : k < 2 ^ 50) (h1 : 97 ≤ c) (h2 : c ≤ 122) : keyS (lN k) (nI c) = lN (32 * k + (c - 96)) := by
  unfold keyS
  rw [wb_shl k (by decide), pk_sub h1, nI_add, nI_l (by omega), wb_or (by omega) (by omega), show k * 2 ^ 5 = 2 ^ 5 * k by omega, ← Nat.two_pow_add_eq_or_of_lt (show c - 97 + 1 < 2 ^ 5 by omega)]
  congr 1
  omega
/-- the tape, as it is read: bytes and length -/
def TpC (m : Me) (B : Nat → Nat) (n : Nat) : Prop := n ≤ 2000 ∧ gI m 1 1 = nI n ∧ (∀ i, i < n → gI m 2 i &&& nI 255 = nI (B i)) ∧ B8 B
set_option maxRecDepth 100000 in
set_option maxHeartbeats 4000000 in
theorem ev_byteAt {m : Me} {B : Nat → Nat} {n i : Nat} (ht : Wf9 m.1 (gR m) 1) (hT : TpC m B n) (hi : i ≤ 4000) : Ev mX9_byteAt [.ref 1, .int (nI i)] m (fun o m' => o = some (.int (bS B n i)) ∧ m' = m) := by
  have hn := hT.1
  refine ⟨plmX9_byteAt, nle rfl, ?_⟩
  refine go_iload_n (q := 1) (i := 1) rfl rfl dX9_byteAt_0 ?_
  refine gz_lt (by omega) (tgt := 19) dX9_byteAt_1 (by decide) (fun h1 => by exfalso; omega) (fun h1 => ?_)
  refine go_iload_n (q := 1) (i := 1) rfl rfl dX9_byteAt_4 ?_
  refine go_aload_n (q := 0) (i := 0) rfl rfl dX9_byteAt_5 ?_
  refine go_getI lf9_15 rfl ht.o dX9_byteAt_6 ?_
  rw [hT.2.1]
  refine gn_ge (by omega) (by omega) (tgt := 19) dX9_byteAt_9 (by decide) (fun h9 => ?_) (fun h9 => ?_)
  · skip
    refine go_iconst (v := -1) (by decide) dX9_byteAt_19 ?_
    refine go_goto (tgt := 33) dX9_byteAt_20 (by decide) ?_
    refine go_iret rfl ⟨Nat.zero_le _, Nat.zero_le _⟩ dX9_byteAt_33 ?_
    exact ⟨by unfold bS; rw [if_neg (by omega)], rfl⟩
  · skip
    refine go_iload_n (q := 1) (i := 1) rfl rfl dX9_byteAt_12 ?_
    refine go_sipush (v := nI 2000) (by decide) dX9_byteAt_13 ?_
    refine gn_lt (by omega) (by omega) (tgt := 23) dX9_byteAt_16 (by decide) (fun h16 => ?_) (fun h16 => by exfalso; omega)
    refine go_aload_n (q := 0) (i := 0) rfl rfl dX9_byteAt_23 ?_
    refine go_getR lf9_9 rfl ht.o ht.r0 dX9_byteAt_24 ?_
    refine go_iload_n (q := 1) (i := 1) rfl rfl dX9_byteAt_27 ?_
    refine go_bald (j := i) ht.i0 (by omega) (by first | decide | omega) rfl dX9_byteAt_28 ?_
    refine go_sipush (v := nI 255) (by decide) dX9_byteAt_29 ?_
    refine go_iand dX9_byteAt_32 ?_
    rw [hT.2.2.1 i h9]
    refine go_iret rfl ⟨Nat.zero_le _, Nat.zero_le _⟩ dX9_byteAt_33 ?_
    exact ⟨by unfold bS; rw [if_pos h9], rfl⟩
set_option maxRecDepth 100000 in
set_option maxHeartbeats 4000000 in
theorem ev_isLetter {m : Me} {v : Int32} : Ev mX10_isLetter [.int v] m (fun o m' => o = some (.int (ltS v)) ∧ m' = m) := by
  refine ⟨plmX10_isLetter, nle rfl, ?_⟩
  refine go_iload_n (q := 0) (i := 0) rfl rfl dX10_isLetter_0 ?_
  refine go_bipush (v := nI 97) (by decide) dX10_isLetter_1 ?_
  refine go_icmp_lt (tgt := 16) dX10_isLetter_3 (by decide) (fun h3 => ?_) (fun h3 => ?_)
  · skip
    refine go_iconst (v := nI 0) (by decide) dX10_isLetter_16 ?_
    refine go_zret rfl (by decide) ⟨Nat.zero_le _, Nat.zero_le _⟩ dX10_isLetter_17 ?_
    refine ⟨?_, rfl⟩
    unfold ltS
    rw [if_pos h3]
  · skip
    refine go_iload_n (q := 0) (i := 0) rfl rfl dX10_isLetter_6 ?_
    refine go_bipush (v := nI 122) (by decide) dX10_isLetter_7 ?_
    refine go_icmp_gt (tgt := 16) dX10_isLetter_9 (by decide) (fun h9 => ?_) (fun h9 => ?_)
    · skip
      refine go_iconst (v := nI 0) (by decide) dX10_isLetter_16 ?_
      refine go_zret rfl (by decide) ⟨Nat.zero_le _, Nat.zero_le _⟩ dX10_isLetter_17 ?_
      refine ⟨?_, rfl⟩
      unfold ltS
      rw [if_neg h3, if_pos h9]
    · skip
      refine go_iconst (v := nI 1) (by decide) dX10_isLetter_12 ?_
      refine go_goto (tgt := 17) dX10_isLetter_13 (by decide) ?_
      refine go_zret rfl (by decide) ⟨Nat.zero_le _, Nat.zero_le _⟩ dX10_isLetter_17 ?_
      refine ⟨?_, rfl⟩
      unfold ltS
      rw [if_neg h3, if_neg h9]
set_option maxRecDepth 100000 in
set_option maxHeartbeats 4000000 in
theorem ex_isLetter {m : Me} {v : Int32} : Ev mX12_isLetter [.int v] m (fun o m' => o = some (.int (ltS v)) ∧ m' = m) := by
  refine ⟨plmX12_isLetter, nle rfl, ?_⟩
  refine go_iload_n (q := 0) (i := 0) rfl rfl dX12_isLetter_0 ?_
  refine go_bipush (v := nI 97) (by decide) dX12_isLetter_1 ?_
  refine go_icmp_lt (tgt := 16) dX12_isLetter_3 (by decide) (fun h3 => ?_) (fun h3 => ?_)
  · skip
    refine go_iconst (v := nI 0) (by decide) dX12_isLetter_16 ?_
    refine go_zret rfl (by decide) ⟨Nat.zero_le _, Nat.zero_le _⟩ dX12_isLetter_17 ?_
    refine ⟨?_, rfl⟩
    unfold ltS
    rw [if_pos h3]
  · skip
    refine go_iload_n (q := 0) (i := 0) rfl rfl dX12_isLetter_6 ?_
    refine go_bipush (v := nI 122) (by decide) dX12_isLetter_7 ?_
    refine go_icmp_gt (tgt := 16) dX12_isLetter_9 (by decide) (fun h9 => ?_) (fun h9 => ?_)
    · skip
      refine go_iconst (v := nI 0) (by decide) dX12_isLetter_16 ?_
      refine go_zret rfl (by decide) ⟨Nat.zero_le _, Nat.zero_le _⟩ dX12_isLetter_17 ?_
      refine ⟨?_, rfl⟩
      unfold ltS
      rw [if_neg h3, if_pos h9]
    · skip
      refine go_iconst (v := nI 1) (by decide) dX12_isLetter_12 ?_
      refine go_goto (tgt := 17) dX12_isLetter_13 (by decide) ?_
      refine go_zret rfl (by decide) ⟨Nat.zero_le _, Nat.zero_le _⟩ dX12_isLetter_17 ?_
      refine ⟨?_, rfl⟩
      unfold ltS
      rw [if_neg h3, if_neg h9]
set_option maxRecDepth 100000 in
set_option maxHeartbeats 4000000 in
theorem ev_isDigit {m : Me} {v : Int32} : Ev mX10_isDigit [.int v] m (fun o m' => o = some (.int (dgS v)) ∧ m' = m) := by
  refine ⟨plmX10_isDigit, nle rfl, ?_⟩
  refine go_iload_n (q := 0) (i := 0) rfl rfl dX10_isDigit_0 ?_
  refine go_bipush (v := nI 48) (by decide) dX10_isDigit_1 ?_
  refine go_icmp_lt (tgt := 16) dX10_isDigit_3 (by decide) (fun h3 => ?_) (fun h3 => ?_)
  · skip
    refine go_iconst (v := nI 0) (by decide) dX10_isDigit_16 ?_
    refine go_zret rfl (by decide) ⟨Nat.zero_le _, Nat.zero_le _⟩ dX10_isDigit_17 ?_
    refine ⟨?_, rfl⟩
    unfold dgS
    rw [if_pos h3]
  · skip
    refine go_iload_n (q := 0) (i := 0) rfl rfl dX10_isDigit_6 ?_
    refine go_bipush (v := nI 57) (by decide) dX10_isDigit_7 ?_
    refine go_icmp_gt (tgt := 16) dX10_isDigit_9 (by decide) (fun h9 => ?_) (fun h9 => ?_)
    · skip
      refine go_iconst (v := nI 0) (by decide) dX10_isDigit_16 ?_
      refine go_zret rfl (by decide) ⟨Nat.zero_le _, Nat.zero_le _⟩ dX10_isDigit_17 ?_
      refine ⟨?_, rfl⟩
      unfold dgS
      rw [if_neg h3, if_pos h9]
    · skip
      refine go_iconst (v := nI 1) (by decide) dX10_isDigit_12 ?_
      refine go_goto (tgt := 17) dX10_isDigit_13 (by decide) ?_
      refine go_zret rfl (by decide) ⟨Nat.zero_le _, Nat.zero_le _⟩ dX10_isDigit_17 ?_
      refine ⟨?_, rfl⟩
      unfold dgS
      rw [if_neg h3, if_neg h9]
set_option maxRecDepth 100000 in
set_option maxHeartbeats 4000000 in
theorem ex_isDigit {m : Me} {v : Int32} : Ev mX12_isDigit [.int v] m (fun o m' => o = some (.int (dgS v)) ∧ m' = m) := by
  refine ⟨plmX12_isDigit, nle rfl, ?_⟩
  refine go_iload_n (q := 0) (i := 0) rfl rfl dX12_isDigit_0 ?_
  refine go_bipush (v := nI 48) (by decide) dX12_isDigit_1 ?_
  refine go_icmp_lt (tgt := 16) dX12_isDigit_3 (by decide) (fun h3 => ?_) (fun h3 => ?_)
  · skip
    refine go_iconst (v := nI 0) (by decide) dX12_isDigit_16 ?_
    refine go_zret rfl (by decide) ⟨Nat.zero_le _, Nat.zero_le _⟩ dX12_isDigit_17 ?_
    refine ⟨?_, rfl⟩
    unfold dgS
    rw [if_pos h3]
  · skip
    refine go_iload_n (q := 0) (i := 0) rfl rfl dX12_isDigit_6 ?_
    refine go_bipush (v := nI 57) (by decide) dX12_isDigit_7 ?_
    refine go_icmp_gt (tgt := 16) dX12_isDigit_9 (by decide) (fun h9 => ?_) (fun h9 => ?_)
    · skip
      refine go_iconst (v := nI 0) (by decide) dX12_isDigit_16 ?_
      refine go_zret rfl (by decide) ⟨Nat.zero_le _, Nat.zero_le _⟩ dX12_isDigit_17 ?_
      refine ⟨?_, rfl⟩
      unfold dgS
      rw [if_neg h3, if_pos h9]
    · skip
      refine go_iconst (v := nI 1) (by decide) dX12_isDigit_12 ?_
      refine go_goto (tgt := 17) dX12_isDigit_13 (by decide) ?_
      refine go_zret rfl (by decide) ⟨Nat.zero_le _, Nat.zero_le _⟩ dX12_isDigit_17 ?_
      refine ⟨?_, rfl⟩
      unfold dgS
      rw [if_neg h3, if_neg h9]
set_option maxRecDepth 100000 in
set_option maxHeartbeats 4000000 in
theorem ev_isBlank {m : Me} {v : Int32} : Ev mX10_isBlank [.int v] m (fun o m' => o = some (.int (bkS v)) ∧ m' = m) := by
  refine ⟨plmX10_isBlank, nle rfl, ?_⟩
  refine go_iload_n (q := 0) (i := 0) rfl rfl dX10_isBlank_0 ?_
  refine go_bipush (v := nI 9) (by decide) dX10_isBlank_1 ?_
  refine go_icmp_eq (tgt := 24) dX10_isBlank_3 (by decide) (fun h3 => ?_) (fun h3 => ?_)
  · skip
    refine go_iconst (v := nI 1) (by decide) dX10_isBlank_24 ?_
    refine go_goto (tgt := 29) dX10_isBlank_25 (by decide) ?_
    refine go_zret rfl (by decide) ⟨Nat.zero_le _, Nat.zero_le _⟩ dX10_isBlank_29 ?_
    refine ⟨?_, rfl⟩
    unfold bkS
    rw [if_pos h3]
  · skip
    refine go_iload_n (q := 0) (i := 0) rfl rfl dX10_isBlank_6 ?_
    refine go_bipush (v := nI 10) (by decide) dX10_isBlank_7 ?_
    refine go_icmp_eq (tgt := 24) dX10_isBlank_9 (by decide) (fun h9 => ?_) (fun h9 => ?_)
    · skip
      refine go_iconst (v := nI 1) (by decide) dX10_isBlank_24 ?_
      refine go_goto (tgt := 29) dX10_isBlank_25 (by decide) ?_
      refine go_zret rfl (by decide) ⟨Nat.zero_le _, Nat.zero_le _⟩ dX10_isBlank_29 ?_
      refine ⟨?_, rfl⟩
      unfold bkS
      rw [if_neg h3, if_pos h9]
    · skip
      refine go_iload_n (q := 0) (i := 0) rfl rfl dX10_isBlank_12 ?_
      refine go_bipush (v := nI 13) (by decide) dX10_isBlank_13 ?_
      refine go_icmp_eq (tgt := 24) dX10_isBlank_15 (by decide) (fun h15 => ?_) (fun h15 => ?_)
      · skip
        refine go_iconst (v := nI 1) (by decide) dX10_isBlank_24 ?_
        refine go_goto (tgt := 29) dX10_isBlank_25 (by decide) ?_
        refine go_zret rfl (by decide) ⟨Nat.zero_le _, Nat.zero_le _⟩ dX10_isBlank_29 ?_
        refine ⟨?_, rfl⟩
        unfold bkS
        rw [if_neg h3, if_neg h9, if_pos h15]
      · skip
        refine go_iload_n (q := 0) (i := 0) rfl rfl dX10_isBlank_18 ?_
        refine go_bipush (v := nI 32) (by decide) dX10_isBlank_19 ?_
        refine go_icmp_ne (tgt := 28) dX10_isBlank_21 (by decide) (fun h21 => ?_) (fun h21 => ?_)
        · skip
          refine go_iconst (v := nI 0) (by decide) dX10_isBlank_28 ?_
          refine go_zret rfl (by decide) ⟨Nat.zero_le _, Nat.zero_le _⟩ dX10_isBlank_29 ?_
          refine ⟨?_, rfl⟩
          unfold bkS
          rw [if_neg h3, if_neg h9, if_neg h15, if_neg h21]
        · skip
          refine go_iconst (v := nI 1) (by decide) dX10_isBlank_24 ?_
          refine go_goto (tgt := 29) dX10_isBlank_25 (by decide) ?_
          refine go_zret rfl (by decide) ⟨Nat.zero_le _, Nat.zero_le _⟩ dX10_isBlank_29 ?_
          refine ⟨?_, rfl⟩
          unfold bkS
          rw [if_neg h3, if_neg h9, if_neg h15, if_pos h21]
set_option maxRecDepth 100000 in
set_option maxHeartbeats 4000000 in
theorem ev_keyWith {m : Me} {k : Int64} {c : Int32} : Ev mX10_keyWith [.long k, .int c] m (fun o m' => o = some (.long (keyS k c)) ∧ m' = m) := by
  refine ⟨plmX10_keyWith, nle rfl, ?_⟩
  refine go_lload_n (q := 0) (i := 0) rfl rfl dX10_keyWith_0 ?_
  refine go_iconst (v := nI 5) (by decide) dX10_keyWith_1 ?_
  refine go_lshl dX10_keyWith_2 ?_
  refine go_iload_n (q := 2) (i := 2) rfl rfl dX10_keyWith_3 ?_
  refine go_bipush (v := nI 97) (by decide) dX10_keyWith_4 ?_
  refine go_isub dX10_keyWith_6 ?_
  refine go_iconst (v := nI 1) (by decide) dX10_keyWith_7 ?_
  refine go_iadd dX10_keyWith_8 ?_
  refine go_i2l dX10_keyWith_9 ?_
  refine go_lor dX10_keyWith_10 ?_
  refine go_lret rfl ⟨Nat.zero_le _, Nat.zero_le _⟩ dX10_keyWith_11 ?_
  exact ⟨rfl, rfl⟩
set_option maxRecDepth 100000 in
set_option maxHeartbeats 8000000 in
theorem ev_pastBlanks {m : Me} {B : Nat → Nat} {n a : Nat} (ht : Wf9 m.1 (gR m) 1) (hT : TpC m B n) (ha : a ≤ n) : Ev mX10_pastBlanks [.ref 1, .int (nI a)] m (fun o m' => o = some (.int (nI (en B n isBk a))) ∧ m' = m) := by
  refine ⟨plmX10_pastBlanks, nle rfl, ?_⟩
  have key : ∀ i, i ≤ 2000 → (∀ j, j < i → inP B n isBk (a + j)) → Go mX10_pastBlanks (fun o m' => o = some (.int (nI (en B n isBk a))) ∧ m' = m) 4 [some (.ref 1), some (.int (nI a)), some (.int (nI (a + i))), some (.int (nI i))] [] m 0 0 := by
    refine loop_up 2000 ?_ ?_
    · intro hn
      have hn2 := hT.1
      refine go_iload_n (q := 3) (i := 3) rfl rfl dX10_pastBlanks_4 ?_
      refine go_sipush (v := nI 2000) (by decide) dX10_pastBlanks_5 ?_
      refine gn_ge (by omega) (by omega) (tgt := 31) dX10_pastBlanks_8 (by decide) (fun h8 => ?_) (fun h8 => by exfalso; omega)
      refine go_iload_n (q := 2) (i := 2) rfl rfl dX10_pastBlanks_31 ?_
      refine go_iret rfl ⟨Nat.zero_le _, Nat.zero_le _⟩ dX10_pastBlanks_32 ?_
      refine ⟨?_, rfl⟩
      rw [en_u (e := a + 2000) (by omega) (fun j h1 h2 => by have := hn (j - a) (by omega); rw [show a + (j - a) = j by omega] at this; exact this) (fun z => by have := z.1; omega)]
    · intro i hi ih hn
      have hn2 := hT.1
      refine go_iload_n (q := 3) (i := 3) rfl rfl dX10_pastBlanks_4 ?_
      refine go_sipush (v := nI 2000) (by decide) dX10_pastBlanks_5 ?_
      refine gn_ge (by omega) (by omega) (tgt := 31) dX10_pastBlanks_8 (by decide) (fun h8 => by exfalso; omega) (fun h8 => ?_)
      refine go_aload_n (q := 0) (i := 0) rfl rfl dX10_pastBlanks_11 ?_
      refine go_iload_n (q := 2) (i := 2) rfl rfl dX10_pastBlanks_12 ?_
      refine go_callV okmX9_byteAt lmX10_69 ⟨nle rfl, nle rfl⟩ ht.o ⟨by decide, rfl⟩ (ev_byteAt (i := a + i) ht hT (by omega)) npmX9_byteAt rfl (nle rfl) ⟨nle rfl, nle rfl⟩ dX10_pastBlanks_13 ?_
      rintro _ mz ⟨rfl, hz⟩
      subst mz
      refine go_c1 ?_
      refine go_callS okmX10_isBlank lmX10_102 ⟨nle rfl, nle rfl⟩ (ev_isBlank) npmX10_isBlank rfl (nle rfl) ⟨nle rfl, nle rfl⟩ dX10_pastBlanks_16 ?_
      rintro _ mz ⟨rfl, hz⟩
      subst mz
      rw [bk_b hT.2.2.2]
      refine go_c1 ?_
      refine go_if_eq (tgt := 31) dX10_pastBlanks_19 (by decide) (fun h19 => ?_) (fun h19 => ?_)
      · skip
        refine go_iload_n (q := 2) (i := 2) rfl rfl dX10_pastBlanks_31 ?_
        refine go_iret rfl ⟨Nat.zero_le _, Nat.zero_le _⟩ dX10_pastBlanks_32 ?_
        refine ⟨?_, rfl⟩
        rw [en_u (e := a + i) (by omega) (fun j h1 h2 => by have := hn (j - a) (by omega); rw [show a + (j - a) = j by omega] at this; exact this) (pz.mp h19)]
      · skip
        refine gn_inc (i := 2) (a := a + i) (q := 1) rfl dX10_pastBlanks_22 (nle rfl) rfl ?_
        refine gn_inc (i := 3) (a := i) (q := 1) rfl dX10_pastBlanks_25 (nle rfl) rfl ?_
        refine go_goto (tgt := 4) dX10_pastBlanks_28 (by decide) ?_
        exact ih (fun j hj => by
          by_cases e : j = i
          · rw [e]; exact pnz h19
          · exact hn j (by omega))
  refine go_iload_n (q := 1) (i := 1) rfl rfl dX10_pastBlanks_0 ?_
  refine go_istore_n (q := 2) (i := 2) rfl dX10_pastBlanks_1 (nle rfl) (nle rfl) ?_
  refine go_iconst (v := nI 0) (by decide) dX10_pastBlanks_2 ?_
  refine go_istore_n (q := 3) (i := 3) rfl dX10_pastBlanks_3 (nle rfl) (nle rfl) ?_
  exact key 0 (Nat.zero_le _) (fun j h => absurd h (Nat.not_lt_zero j))
set_option maxRecDepth 100000 in
set_option maxHeartbeats 4000000 in
theorem ev_put {m : Me} {z : Nat} {k w : Int32} {v : Int64} (hw : Wf10 m.1 (gR m) 3) (hz : z ≤ 400) (hsz : gI m 3 4 = nI z) : Ev mX10_put [.ref 3, .int k, .long v, .int w] m (fun o m' => o = none ∧ Fx (fun x => x = 3 ∨ x = 5 ∨ x = 7) (fun x => x = 6) m m' ∧ gI m' 3 = upd (gI m 3) 4 (nI (z + 1)) ∧ gI m' 5 = upd (gI m 5) z k ∧ gI m' 7 = upd (gI m 7) z w ∧ gJ m' 6 = vp_updL (gJ m 6) z v) := by
  refine ⟨plmX10_put, nle rfl, ?_⟩
  refine go_aload_n (q := 0) (i := 0) rfl rfl dX10_put_0 ?_
  refine go_getI lf10_45 rfl hw.o dX10_put_1 ?_
  rw [hsz]
  refine gz_lt (by omega) (tgt := 58) dX10_put_4 (by decide) (fun h4 => by exfalso; omega) (fun h4 => ?_)
  refine go_aload_n (q := 0) (i := 0) rfl rfl dX10_put_7 ?_
  refine go_getI lf10_45 rfl hw.o dX10_put_8 ?_
  rw [hsz]
  refine go_sipush (v := nI 400) (by decide) dX10_put_11 ?_
  refine gn_gt (by omega) (by omega) (tgt := 58) dX10_put_14 (by decide) (fun h14 => by exfalso; omega) (fun h14 => ?_)
  refine go_aload_n (q := 0) (i := 0) rfl rfl dX10_put_17 ?_
  refine go_getR lf10_15 rfl hw.o hw.r1 dX10_put_18 ?_
  refine go_aload_n (q := 0) (i := 0) rfl rfl dX10_put_21 ?_
  refine go_getI lf10_45 rfl hw.o dX10_put_22 ?_
  rw [hsz]
  refine go_iload_n (q := 1) (i := 1) rfl rfl dX10_put_25 ?_
  refine go_iast (j := z) hw.i1 (by omega) (by first | decide | omega) rfl dX10_put_26 ?_
  refine go_aload_n (q := 0) (i := 0) rfl rfl dX10_put_27 ?_
  refine go_getR lf10_19 rfl hw.o hw.r2 dX10_put_28 ?_
  refine go_aload_n (q := 0) (i := 0) rfl rfl dX10_put_31 ?_
  refine go_getI lf10_45 rfl hw.o dX10_put_32 ?_
  rw [gI_n (by decide), hsz]
  refine go_lload_n (q := 2) (i := 2) rfl rfl dX10_put_35 ?_
  refine go_last (j := z) hw.i2 (by omega) (by first | decide | omega) rfl dX10_put_36 ?_
  refine go_aload_n (q := 0) (i := 0) rfl rfl dX10_put_37 ?_
  refine go_getR lf10_22 rfl hw.o hw.r3 dX10_put_38 ?_
  refine go_aload_n (q := 0) (i := 0) rfl rfl dX10_put_41 ?_
  refine go_getI lf10_45 rfl hw.o dX10_put_42 ?_
  rw [show ∀ (q : Me) (r : Nat → Int64), gI (sJ q 6 r) = gI q from fun _ _ => rfl, gI_n (by decide), hsz]
  refine go_iload (i := 4) rfl dX10_put_45 ?_
  refine go_iast (j := z) hw.i3 (by omega) (by first | decide | omega) rfl dX10_put_47 ?_
  refine go_aload_n (q := 0) (i := 0) rfl rfl dX10_put_48 ?_
  refine go_dup rfl dX10_put_49 ?_
  refine go_getI lf10_45 rfl hw.o dX10_put_50 ?_
  rw [gI_n (by decide), show ∀ (q : Me) (r : Nat → Int64), gI (sJ q 6 r) = gI q from fun _ _ => rfl, gI_n (by decide), hsz]
  refine go_iconst (v := nI 1) (by decide) dX10_put_53 ?_
  refine gn_add dX10_put_54 ?_
  refine go_putI lf10_45 rfl (Or.inl rfl) hw.o dX10_put_55 ?_
  refine go_vret rfl ⟨Nat.zero_le _, Nat.zero_le _⟩ dX10_put_58 ?_
  refine ⟨rfl, Fx.I (Fx.I (Fx.J (Fx.I Fx.rf (Or.inr (Or.inl rfl))) rfl) (Or.inr (Or.inr rfl))) (Or.inl rfl), ?_, ?_, ?_, ?_⟩
  · rw [gI_s]; rfl
  · rfl
  · rfl
  · rfl
set_option maxRecDepth 100000 in
set_option maxHeartbeats 8000000 in
theorem ev_kindOf {m : Me} {l : List Nat} (hw : Wf10 m.1 (gR m) 3) (hk : ∀ k, k < 23 → gJ m 4 k = kwC k) (ho : ltO l) (h8 : l.length ≤ 8) : Ev mX10_kindOf [.ref 3, .long (lN (nkC l))] m (fun o m' => o = some (.int (nI (kwI l))) ∧ m' = m) := by
  refine ⟨plmX10_kindOf, nle rfl, ?_⟩
  have p8 : ∀ (l : List Nat), ltO l → l.length ≤ 8 → nkC l < 2 ^ 50 := fun l o h => Nat.lt_of_lt_of_le (nkC_lt _ l rfl o) (Nat.le_trans (Nat.pow_le_pow_right (by decide) h) (by decide))
  have kw_eq : ∀ i, i < 23 → (kwC i = lN (nkC l) ↔ kwL i = l) := fun i hi => by
    have a := p8 (kwL i) (kw_ok i hi).1 (kw_ok i hi).2
    have b := p8 l ho h8
    unfold kwC
    rw [pk_lEQ (by omega) (by omega)]
    exact ⟨fun z => nkC_inj _ _ _ rfl (kw_ok i hi).1 ho z, fun z => by rw [z]⟩
  have key : ∀ i, i ≤ 23 → (∀ j, j < i → ¬ kwL j = l) → Go mX10_kindOf (fun o m' => o = some (.int (nI (kwI l))) ∧ m' = m) 2 [some (.ref 3), some (.long (lN (nkC l))), none, some (.int (nI i))] [] m 0 0 := by
    refine loop_up 23 ?_ ?_
    · intro hn
      refine go_iload_n (q := 3) (i := 3) rfl rfl dX10_kindOf_2 ?_
      refine go_bipush (v := nI 23) (by decide) dX10_kindOf_3 ?_
      refine gn_ge (by omega) (by omega) (tgt := 27) dX10_kindOf_5 (by decide) (fun h5 => ?_) (fun h5 => by exfalso; omega)
      refine go_bipush (v := nI 23) (by decide) dX10_kindOf_27 ?_
      refine go_iret rfl ⟨Nat.zero_le _, Nat.zero_le _⟩ dX10_kindOf_29 ?_
      refine ⟨?_, rfl⟩
      rw [kwI_no hn]
    · intro i hi ih hn
      refine go_iload_n (q := 3) (i := 3) rfl rfl dX10_kindOf_2 ?_
      refine go_bipush (v := nI 23) (by decide) dX10_kindOf_3 ?_
      refine gn_ge (by omega) (by omega) (tgt := 27) dX10_kindOf_5 (by decide) (fun h5 => by exfalso; omega) (fun h5 => ?_)
      refine go_aload_n (q := 0) (i := 0) rfl rfl dX10_kindOf_8 ?_
      refine go_getR lf10_9 rfl hw.o hw.r0 dX10_kindOf_9 ?_
      refine go_iload_n (q := 3) (i := 3) rfl rfl dX10_kindOf_12 ?_
      refine go_lald (j := i) hw.i0 (by omega) (by first | decide | omega) rfl dX10_kindOf_13 ?_
      rw [hk i hi]
      refine go_lload_n (q := 1) (i := 1) rfl rfl dX10_kindOf_14 ?_
      refine go_lcmp dX10_kindOf_15 ?_
      refine go_if_ne (tgt := 21) dX10_kindOf_16 (by decide) (fun h16 => ?_) (fun h16 => ?_)
      · skip
        refine gn_inc (i := 3) (a := i) (q := 1) rfl dX10_kindOf_21 (nle rfl) rfl ?_
        refine go_goto (tgt := 2) dX10_kindOf_24 (by decide) ?_
        exact ih (fun j hj => by
          by_cases e : j = i
          · rw [e]; exact fun z => h16 (cmp_0.mpr ((kw_eq i hi).mpr z))
          · exact hn j (by omega))
      · skip
        refine go_iload_n (q := 3) (i := 3) rfl rfl dX10_kindOf_19 ?_
        refine go_iret rfl ⟨Nat.zero_le _, Nat.zero_le _⟩ dX10_kindOf_20 ?_
        refine ⟨?_, rfl⟩
        rw [kwI_of hi ((kw_eq i hi).mp (cmp_0.mp h16))]
  refine go_iconst (v := nI 0) (by decide) dX10_kindOf_0 ?_
  refine go_istore_n (q := 3) (i := 3) rfl dX10_kindOf_1 (nle rfl) (nle rfl) ?_
  exact key 0 (Nat.zero_le _) (fun j h => absurd h (Nat.not_lt_zero j))
def PutE (m m' : Me) (z : Nat) (k : Int32) (v : Int64) (w : Int32) : Prop := Fx (fun x => x = 3 ∨ x = 5 ∨ x = 7) (fun x => x = 6) m m' ∧ gI m' 3 = upd (gI m 3) 4 (nI (z + 1)) ∧ gI m' 5 = upd (gI m 5) z k ∧ gI m' 7 = upd (gI m 7) z w ∧ gJ m' 6 = vp_updL (gJ m 6) z v
def VOk (B : Nat → Nat) (n a : Nat) (v : Int64) : Prop := (inP B n isLt a → en B n isLt a - a ≤ 8 → v = lN (nkC (lsF B a (en B n isLt a - a)))) ∧ (inP B n isDg a → en B n isDg a - a ≤ 4 → v = lN (dgF B a (en B n isDg a - a)))
theorem tkK_l {B : Nat → Nat} {n a : Nat} (h : inP B n isLt a) : tkK B n a = if 8 < en B n isLt a - a then 35 else kwI (lsF B a (en B n isLt a - a)) := by
  unfold tkK
  rw [pit_t h.1, pit_t h.2]
theorem lt_dg {c : Nat} (h : isLt c) (k : isDg c) : False := by unfold isLt at h; unfold isDg at k; omega
theorem tkK_d {B : Nat → Nat} {n a : Nat} (h : inP B n isDg a) : tkK B n a = if 4 < en B n isDg a - a then 35 else 24 := by
  unfold tkK
  rw [pit_t h.1, pit_f (fun z => lt_dg z h.2), pit_t h.2]
theorem dg_s {d b : Nat} (h : 48 ≤ b) (hb : b < 256) : lN d * 10 + (nI b).toInt64 - 48 = lN (10 * d + (b - 48)) := by
  rw [show (10 : Int64) = lN 10 from rfl, show (48 : Int64) = lN 48 from rfl, lN_mul, nI_l (by omega), lN_add, lN_sub (by omega)]
  congr 1
  omega
set_option maxRecDepth 100000 in
set_option maxHeartbeats 8000000 in
theorem ev_scanLetters {m : Me} {B : Nat → Nat} {n a z : Nat} (hw : Wf10 m.1 (gR m) 3) (ht : Wf9 m.1 (gR m) 1) (hT : TpC m B n) (hl : inP B n isLt a) (hz : z ≤ 400) (hsz : gI m 3 4 = nI z) (hk : ∀ k, k < 23 → gJ m 4 k = kwC k) : Ev mX10_scanLetters [.ref 3, .ref 1, .int (nI a)] m (fun o m' => o = some (.int (nI (en B n isLt a))) ∧ ∃ v, PutE m m' z (nI (tkK B n a)) v (nI a) ∧ VOk B n a v) := by
  refine ⟨plmX10_scanLetters, nle rfl, ?_⟩
  have hn2 := hT.1
  have hla := hl.1
  have tail : ∀ (i : Nat) (key : Int64), i ≤ 2000 → (∀ j, j < i → inP B n isLt (a + j)) → ((i ≤ 8) → key = lN (nkC (lsF B a i))) → ¬ inP B n isLt (a + i) → Go mX10_scanLetters (fun o m' => o = some (.int (nI (en B n isLt a))) ∧ ∃ v, PutE m m' z (nI (tkK B n a)) v (nI a) ∧ VOk B n a v) 48 [some (.ref 3), some (.ref 1), some (.int (nI a)), some (.int (nI (a + i))), some (.long key), none, some (.int (nI i))] [] m 0 0 := by
    intro i key hi hn hv hend
    have hi0 : 0 < i := Nat.pos_of_ne_zero (fun z => hend (by rw [z]; exact hl))
    have he : en B n isLt a = a + i := en_u (by omega) (fun j h1 h2 => by have := hn (j - a) (by omega); rw [show a + (j - a) = j by omega] at this; exact this) hend
    have hea : en B n isLt a - a = i := by omega
    refine go_aload_n (q := 0) (i := 0) rfl rfl dX10_scanLetters_48 ?_
    refine go_iload_n (q := 3) (i := 3) rfl rfl dX10_scanLetters_49 ?_
    refine go_iload_n (q := 2) (i := 2) rfl rfl dX10_scanLetters_50 ?_
    refine gn_sub (by omega) dX10_scanLetters_51 ?_
    refine go_bipush (v := nI 8) (by decide) dX10_scanLetters_52 ?_
    refine gn_le (by omega) (by omega) (tgt := 62) dX10_scanLetters_54 (by decide) (fun h54 => ?_) (fun h54 => ?_)
    · skip
      have hv8 := hv (by omega)
      subst hv8
      refine go_aload_n (q := 0) (i := 0) rfl rfl dX10_scanLetters_62 ?_
      refine go_lload (i := 4) rfl dX10_scanLetters_63 ?_
      refine go_callV okmX10_kindOf lmX10_94 ⟨nle rfl, nle rfl⟩ hw.o ⟨by decide, rfl⟩ (ev_kindOf hw hk (lsF_o i hn) (by rw [lsF_len]; omega)) npmX10_kindOf rfl (nle rfl) ⟨nle rfl, nle rfl⟩ dX10_scanLetters_65 ?_
      rintro _ mz ⟨rfl, hz⟩
      subst mz
      refine go_c1 ?_
      refine go_lload (i := 4) rfl dX10_scanLetters_68 ?_
      refine go_iload_n (q := 2) (i := 2) rfl rfl dX10_scanLetters_70 ?_
      refine go_callV okmX10_put lmX10_90 ⟨nle rfl, nle rfl⟩ hw.o ⟨by decide, rfl⟩ (ev_put hw hz hsz) npmX10_put rfl (nle rfl) ⟨nle rfl, nle rfl⟩ dX10_scanLetters_71 ?_
      rintro _ m1 ⟨rfl, p1, p2, p3, p4, p5⟩
      refine go_c0 ?_
      refine go_iload_n (q := 3) (i := 3) rfl rfl dX10_scanLetters_74 ?_
      refine go_iret rfl ⟨Nat.zero_le _, Nat.zero_le _⟩ dX10_scanLetters_75 ?_
      have hkk : tkK B n a = kwI (lsF B a i) := by rw [tkK_l hl, hea, if_neg (by omega)]
      rw [he, hkk]
      exact ⟨rfl, _, ⟨p1, p2, p3, p4, p5⟩, ⟨fun _ h8 => by rw [hea], fun hd => (lt_dg hl.2 hd.2).elim⟩⟩
    · skip
      refine go_bipush (v := nI 35) (by decide) dX10_scanLetters_57 ?_
      refine go_goto (tgt := 68) dX10_scanLetters_59 (by decide) ?_
      refine go_lload (i := 4) rfl dX10_scanLetters_68 ?_
      refine go_iload_n (q := 2) (i := 2) rfl rfl dX10_scanLetters_70 ?_
      refine go_callV okmX10_put lmX10_90 ⟨nle rfl, nle rfl⟩ hw.o ⟨by decide, rfl⟩ (ev_put hw hz hsz) npmX10_put rfl (nle rfl) ⟨nle rfl, nle rfl⟩ dX10_scanLetters_71 ?_
      rintro _ m1 ⟨rfl, p1, p2, p3, p4, p5⟩
      refine go_c0 ?_
      refine go_iload_n (q := 3) (i := 3) rfl rfl dX10_scanLetters_74 ?_
      refine go_iret rfl ⟨Nat.zero_le _, Nat.zero_le _⟩ dX10_scanLetters_75 ?_
      have hkk : tkK B n a = 35 := by rw [tkK_l hl, hea, if_pos (by omega)]
      rw [he, hkk]
      exact ⟨rfl, _, ⟨p1, p2, p3, p4, p5⟩, ⟨fun _ h8 => by rw [hea] at h8; exact absurd h8 (by omega), fun hd => (lt_dg hl.2 hd.2).elim⟩⟩
  have key : ∀ i, i ≤ 2000 → ∀ key : Int64, (∀ j, j < i → inP B n isLt (a + j)) → ((i ≤ 8) → key = lN (nkC (lsF B a (i)))) → Go mX10_scanLetters (fun o m' => o = some (.int (nI (en B n isLt a))) ∧ ∃ v, PutE m m' z (nI (tkK B n a)) v (nI a) ∧ VOk B n a v) 8 [some (.ref 3), some (.ref 1), some (.int (nI a)), some (.int (nI (a + i))), some (.long key), none, some (.int (nI i))] [] m 0 0 := by
    refine loop_up 2000 ?_ ?_
    · intro key hn hv
      have hn2 := hT.1
      refine go_iload (i := 6) rfl dX10_scanLetters_8 ?_
      refine go_sipush (v := nI 2000) (by decide) dX10_scanLetters_10 ?_
      refine gn_ge (by omega) (by omega) (tgt := 48) dX10_scanLetters_13 (by decide) (fun h13 => ?_) (fun h13 => by exfalso; omega)
      exact tail 2000 key (Nat.le_refl _) hn hv (fun z => by have := z.1; omega)
    · intro i hi ih key hn hv
      have hn2 := hT.1
      refine go_iload (i := 6) rfl dX10_scanLetters_8 ?_
      refine go_sipush (v := nI 2000) (by decide) dX10_scanLetters_10 ?_
      refine gn_ge (by omega) (by omega) (tgt := 48) dX10_scanLetters_13 (by decide) (fun h13 => by exfalso; omega) (fun h13 => ?_)
      refine go_aload_n (q := 1) (i := 1) rfl rfl dX10_scanLetters_16 ?_
      refine go_iload_n (q := 3) (i := 3) rfl rfl dX10_scanLetters_17 ?_
      refine go_callV okmX9_byteAt lmX10_69 ⟨nle rfl, nle rfl⟩ ht.o ⟨by decide, rfl⟩ (ev_byteAt (i := a + i) ht hT (by omega)) npmX9_byteAt rfl (nle rfl) ⟨nle rfl, nle rfl⟩ dX10_scanLetters_18 ?_
      rintro _ mz ⟨rfl, hz⟩
      subst mz
      refine go_c1 ?_
      refine go_callS okmX10_isLetter lmX10_72 ⟨nle rfl, nle rfl⟩ (ev_isLetter) npmX10_isLetter rfl (nle rfl) ⟨nle rfl, nle rfl⟩ dX10_scanLetters_21 ?_
      rintro _ mz ⟨rfl, hz⟩
      subst mz
      rw [lt_b hT.2.2.2]
      refine go_c1 ?_
      refine go_if_eq (tgt := 48) dX10_scanLetters_24 (by decide) (fun h24 => ?_) (fun h24 => ?_)
      · skip
        exact tail i key (by omega) hn hv (pz.mp h24)
      · skip
        refine go_lload (i := 4) rfl dX10_scanLetters_27 ?_
        refine go_aload_n (q := 1) (i := 1) rfl rfl dX10_scanLetters_29 ?_
        refine go_iload_n (q := 3) (i := 3) rfl rfl dX10_scanLetters_30 ?_
        refine go_callV okmX9_byteAt lmX10_69 ⟨nle rfl, nle rfl⟩ ht.o ⟨by decide, rfl⟩ (ev_byteAt (i := a + i) ht hT (by omega)) npmX9_byteAt rfl (nle rfl) ⟨nle rfl, nle rfl⟩ dX10_scanLetters_31 ?_
        rintro _ mz ⟨rfl, hz⟩
        subst mz
        refine go_c1 ?_
        refine go_callS okmX10_keyWith lmX10_41 ⟨nle rfl, nle rfl⟩ (ev_keyWith) npmX10_keyWith rfl (nle rfl) ⟨nle rfl, nle rfl⟩ dX10_scanLetters_34 ?_
        rintro _ mz ⟨rfl, hz⟩
        subst mz
        refine go_c1 ?_
        refine go_lstore (i := 4) dX10_scanLetters_37 (nle rfl) (nle rfl) ?_
        refine gn_inc (i := 3) (a := a + i) (q := 1) rfl dX10_scanLetters_39 (nle rfl) rfl ?_
        refine gn_inc (i := 6) (a := i) (q := 1) rfl dX10_scanLetters_42 (nle rfl) rfl ?_
        refine go_goto (tgt := 8) dX10_scanLetters_45 (by decide) ?_
        have hb := (hT.2.2.2 (a + i))
        have hc := pnz h24
        have hc2 := hc.2
        unfold isLt at hc2
        exact ih _ (fun j hj => by
          by_cases e : j = i
          · rw [e]; exact hc
          · exact hn j (by omega)) (fun h => by
          rw [hv (by omega), show bS B n (a + i) = nI (B (a + i)) from if_pos hc.1, keyS_n (by have := nkC_lt i (lsF B a i) (lsF_len i) (lsF_o i hn); have := Nat.pow_le_pow_right (n := 32) (by decide) (show i ≤ 8 by omega); omega) hc2.1 hc2.2]
          rw [lsF, nkC_s])
  refine go_iload_n (q := 2) (i := 2) rfl rfl dX10_scanLetters_0 ?_
  refine go_istore_n (q := 3) (i := 3) rfl dX10_scanLetters_1 (nle rfl) (nle rfl) ?_
  refine go_lconst (v := 0) (by decide) dX10_scanLetters_2 ?_
  refine go_lstore (i := 4) dX10_scanLetters_3 (nle rfl) (nle rfl) ?_
  refine go_iconst (v := nI 0) (by decide) dX10_scanLetters_5 ?_
  refine go_istore (i := 6) dX10_scanLetters_6 (nle rfl) (nle rfl) ?_
  exact key 0 (Nat.zero_le _) _ (fun j h => absurd h (Nat.not_lt_zero j)) (fun _ => rfl)
set_option maxRecDepth 100000 in
set_option maxHeartbeats 8000000 in
theorem ev_scanDigits {m : Me} {B : Nat → Nat} {n a z : Nat} (hw : Wf10 m.1 (gR m) 3) (ht : Wf9 m.1 (gR m) 1) (hT : TpC m B n) (hl : inP B n isDg a) (hz : z ≤ 400) (hsz : gI m 3 4 = nI z) : Ev mX10_scanDigits [.ref 3, .ref 1, .int (nI a)] m (fun o m' => o = some (.int (nI (en B n isDg a))) ∧ ∃ v, PutE m m' z (nI (tkK B n a)) v (nI a) ∧ VOk B n a v) := by
  refine ⟨plmX10_scanDigits, nle rfl, ?_⟩
  have hn2 := hT.1
  have hla := hl.1
  have tail : ∀ (i : Nat) (key : Int64), i ≤ 2000 → (∀ j, j < i → inP B n isDg (a + j)) → ((i ≤ 4) → key = lN (dgF B a i)) → ¬ inP B n isDg (a + i) → Go mX10_scanDigits (fun o m' => o = some (.int (nI (en B n isDg a))) ∧ ∃ v, PutE m m' z (nI (tkK B n a)) v (nI a) ∧ VOk B n a v) 55 [some (.ref 3), some (.ref 1), some (.int (nI a)), some (.int (nI (a + i))), some (.long key), none, some (.int (nI i))] [] m 0 0 := by
    intro i key hi hn hv hend
    have hi0 : 0 < i := Nat.pos_of_ne_zero (fun z => hend (by rw [z]; exact hl))
    have he : en B n isDg a = a + i := en_u (by omega) (fun j h1 h2 => by have := hn (j - a) (by omega); rw [show a + (j - a) = j by omega] at this; exact this) hend
    have hea : en B n isDg a - a = i := by omega
    refine go_aload_n (q := 0) (i := 0) rfl rfl dX10_scanDigits_55 ?_
    refine go_iload_n (q := 3) (i := 3) rfl rfl dX10_scanDigits_56 ?_
    refine go_iload_n (q := 2) (i := 2) rfl rfl dX10_scanDigits_57 ?_
    refine gn_sub (by omega) dX10_scanDigits_58 ?_
    refine go_iconst (v := nI 4) (by decide) dX10_scanDigits_59 ?_
    refine gn_le (by omega) (by omega) (tgt := 68) dX10_scanDigits_60 (by decide) (fun h60 => ?_) (fun h60 => ?_)
    · skip
      refine go_bipush (v := nI 24) (by decide) dX10_scanDigits_68 ?_
      refine go_lload (i := 4) rfl dX10_scanDigits_70 ?_
      refine go_iload_n (q := 2) (i := 2) rfl rfl dX10_scanDigits_72 ?_
      refine go_callV okmX10_put lmX10_90 ⟨nle rfl, nle rfl⟩ hw.o ⟨by decide, rfl⟩ (ev_put hw hz hsz) npmX10_put rfl (nle rfl) ⟨nle rfl, nle rfl⟩ dX10_scanDigits_73 ?_
      rintro _ m1 ⟨rfl, p1, p2, p3, p4, p5⟩
      refine go_c0 ?_
      refine go_iload_n (q := 3) (i := 3) rfl rfl dX10_scanDigits_76 ?_
      refine go_iret rfl ⟨Nat.zero_le _, Nat.zero_le _⟩ dX10_scanDigits_77 ?_
      have hkk : tkK B n a = 24 := by rw [tkK_d hl, hea, if_neg (by omega)]
      rw [he, hkk]
      exact ⟨rfl, _, ⟨p1, p2, p3, p4, p5⟩, ⟨fun hd => (lt_dg hd.2 hl.2).elim, fun _ h8 => by rw [hea] at h8 ⊢; exact hv (by omega)⟩⟩
    · skip
      refine go_bipush (v := nI 35) (by decide) dX10_scanDigits_63 ?_
      refine go_goto (tgt := 70) dX10_scanDigits_65 (by decide) ?_
      refine go_lload (i := 4) rfl dX10_scanDigits_70 ?_
      refine go_iload_n (q := 2) (i := 2) rfl rfl dX10_scanDigits_72 ?_
      refine go_callV okmX10_put lmX10_90 ⟨nle rfl, nle rfl⟩ hw.o ⟨by decide, rfl⟩ (ev_put hw hz hsz) npmX10_put rfl (nle rfl) ⟨nle rfl, nle rfl⟩ dX10_scanDigits_73 ?_
      rintro _ m1 ⟨rfl, p1, p2, p3, p4, p5⟩
      refine go_c0 ?_
      refine go_iload_n (q := 3) (i := 3) rfl rfl dX10_scanDigits_76 ?_
      refine go_iret rfl ⟨Nat.zero_le _, Nat.zero_le _⟩ dX10_scanDigits_77 ?_
      have hkk : tkK B n a = 35 := by rw [tkK_d hl, hea, if_pos (by omega)]
      rw [he, hkk]
      exact ⟨rfl, _, ⟨p1, p2, p3, p4, p5⟩, ⟨fun hd => (lt_dg hd.2 hl.2).elim, fun _ h8 => by rw [hea] at h8 ⊢; exact absurd h8 (by omega)⟩⟩
  have key : ∀ i, i ≤ 2000 → ∀ key : Int64, (∀ j, j < i → inP B n isDg (a + j)) → ((i ≤ 4) → key = lN (dgF B a (i))) → Go mX10_scanDigits (fun o m' => o = some (.int (nI (en B n isDg a))) ∧ ∃ v, PutE m m' z (nI (tkK B n a)) v (nI a) ∧ VOk B n a v) 8 [some (.ref 3), some (.ref 1), some (.int (nI a)), some (.int (nI (a + i))), some (.long key), none, some (.int (nI i))] [] m 0 0 := by
    refine loop_up 2000 ?_ ?_
    · intro key hn hv
      have hn2 := hT.1
      refine go_iload (i := 6) rfl dX10_scanDigits_8 ?_
      refine go_sipush (v := nI 2000) (by decide) dX10_scanDigits_10 ?_
      refine gn_ge (by omega) (by omega) (tgt := 55) dX10_scanDigits_13 (by decide) (fun h13 => ?_) (fun h13 => by exfalso; omega)
      exact tail 2000 key (Nat.le_refl _) hn hv (fun z => by have := z.1; omega)
    · intro i hi ih key hn hv
      have hn2 := hT.1
      refine go_iload (i := 6) rfl dX10_scanDigits_8 ?_
      refine go_sipush (v := nI 2000) (by decide) dX10_scanDigits_10 ?_
      refine gn_ge (by omega) (by omega) (tgt := 55) dX10_scanDigits_13 (by decide) (fun h13 => by exfalso; omega) (fun h13 => ?_)
      refine go_aload_n (q := 1) (i := 1) rfl rfl dX10_scanDigits_16 ?_
      refine go_iload_n (q := 3) (i := 3) rfl rfl dX10_scanDigits_17 ?_
      refine go_callV okmX9_byteAt lmX10_69 ⟨nle rfl, nle rfl⟩ ht.o ⟨by decide, rfl⟩ (ev_byteAt (i := a + i) ht hT (by omega)) npmX9_byteAt rfl (nle rfl) ⟨nle rfl, nle rfl⟩ dX10_scanDigits_18 ?_
      rintro _ mz ⟨rfl, hz⟩
      subst mz
      refine go_c1 ?_
      refine go_callS okmX10_isDigit lmX10_79 ⟨nle rfl, nle rfl⟩ (ev_isDigit) npmX10_isDigit rfl (nle rfl) ⟨nle rfl, nle rfl⟩ dX10_scanDigits_21 ?_
      rintro _ mz ⟨rfl, hz⟩
      subst mz
      rw [dg_b hT.2.2.2]
      refine go_c1 ?_
      refine go_if_eq (tgt := 55) dX10_scanDigits_24 (by decide) (fun h24 => ?_) (fun h24 => ?_)
      · skip
        exact tail i key (by omega) hn hv (pz.mp h24)
      · skip
        refine go_lload (i := 4) rfl dX10_scanDigits_27 ?_
        refine go_ldc2 (wg3 57 rfl rfl) dX10_scanDigits_29 ?_
        refine go_lmul dX10_scanDigits_32 ?_
        refine go_aload_n (q := 1) (i := 1) rfl rfl dX10_scanDigits_33 ?_
        refine go_iload_n (q := 3) (i := 3) rfl rfl dX10_scanDigits_34 ?_
        refine go_callV okmX9_byteAt lmX10_69 ⟨nle rfl, nle rfl⟩ ht.o ⟨by decide, rfl⟩ (ev_byteAt (i := a + i) ht hT (by omega)) npmX9_byteAt rfl (nle rfl) ⟨nle rfl, nle rfl⟩ dX10_scanDigits_35 ?_
        rintro _ mz ⟨rfl, hz⟩
        subst mz
        refine go_c1 ?_
        refine go_i2l dX10_scanDigits_38 ?_
        refine go_ladd dX10_scanDigits_39 ?_
        refine go_ldc2 (wg3 58 rfl rfl) dX10_scanDigits_40 ?_
        refine go_lsub dX10_scanDigits_43 ?_
        refine go_lstore (i := 4) dX10_scanDigits_44 (nle rfl) (nle rfl) ?_
        refine gn_inc (i := 3) (a := a + i) (q := 1) rfl dX10_scanDigits_46 (nle rfl) rfl ?_
        refine gn_inc (i := 6) (a := i) (q := 1) rfl dX10_scanDigits_49 (nle rfl) rfl ?_
        refine go_goto (tgt := 8) dX10_scanDigits_52 (by decide) ?_
        have hb := (hT.2.2.2 (a + i))
        have hc := pnz h24
        have hc2 := hc.2
        unfold isDg at hc2
        exact ih _ (fun j hj => by
          by_cases e : j = i
          · rw [e]; exact hc
          · exact hn j (by omega)) (fun h => by
          rw [hv (by omega), show bS B n (a + i) = nI (B (a + i)) from if_pos hc.1, dg_s hc2.1 (by omega)]
          rfl)
  refine go_iload_n (q := 2) (i := 2) rfl rfl dX10_scanDigits_0 ?_
  refine go_istore_n (q := 3) (i := 3) rfl dX10_scanDigits_1 (nle rfl) (nle rfl) ?_
  refine go_lconst (v := 0) (by decide) dX10_scanDigits_2 ?_
  refine go_lstore (i := 4) dX10_scanDigits_3 (nle rfl) (nle rfl) ?_
  refine go_iconst (v := nI 0) (by decide) dX10_scanDigits_5 ?_
  refine go_istore (i := 6) dX10_scanDigits_6 (nle rfl) (nle rfl) ?_
  exact key 0 (Nat.zero_le _) _ (fun j h => absurd h (Nat.not_lt_zero j)) (fun _ => rfl)
