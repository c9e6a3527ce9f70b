theorem rk_i : ∀ k, k ≤ 35 → ∀ j, j ≤ 35 → (rk k = rk j ↔ k = j) := by decide +kernel
theorem rk_le : ∀ k, k ≤ 35 → rk k ≤ 42 := by decide +kernel
/-- the reference's tokens, as far as the class cut them -/
def TkR (m : Me) (B : Nat → Nat) (n z : Nat) : Prop := 0 < z ∧ z ≤ 401 ∧ (z = 401 ∨ 34 ≤ tK B n (z - 1)) ∧ ∀ j, j < z → gI m 277 j = nI (rk (tK B n j)) ∧ gI m 278 j = nI (tP B n j) ∧ (tK B n j = 24 → gI m 279 j = nI (tD B n j)) ∧ (tK B n j ≤ 23 → gJ m 280 j = lN (nkM (tL B n j)))
theorem TkR.of {m : Me} {B : Nat → Nat} {n z y : Nat} (h : TkM m B n y) (h1 : ∀ j, j + 1 < z → tK B n j < 34) (h2 : 0 < z) (h3 : z ≤ 401) (h4 : z = 401 ∨ 34 ≤ tK B n (z - 1)) (h5 : 0 < y) (h6 : y = 401 ∨ tK B n (y - 1) = 34) : TkR m B n z := ⟨h2, h3, h4, fun j hj => h.2 j (by
  rcases h6 with e | e
  · omega
  · by_cases q : y < z
    · have := h1 (y - 1) (by omega)
      omega
    · omega)⟩
theorem TkR.nx {m : Me} {B : Nat → Nat} {n z j : Nat} (h : TkR m B n z) (hj : j < z) (hk : kG B n z j < 34) (h4 : j < 400) : j + 1 < z := by
  rcases h.2.2.1 with e | e
  · omega
  · by_cases q : j + 1 = z
    · unfold kG at hk
      rw [if_pos hj] at hk
      rw [show z - 1 = j by omega] at e
      omega
    · omega
theorem TkR.k {m : Me} {B : Nat → Nat} {n z j : Nat} (h : TkR m B n z) (hj : j < z) : gI m 277 j = nI (rk (kG B n z j)) ∧ gI m 278 j = nI (pG B n z j) := by
  unfold kG pG
  rw [if_pos hj, if_pos hj]
  exact ⟨(h.2.2.2 j hj).1, (h.2.2.2 j hj).2.1⟩
/-- the reference's memory stands as the machine's state says -/
def GM (m : Me) (B : Nat → Nat) (n z : Nat) (s : Nat × Nat) : Prop := gI m 274 13 = nI s.1 ∧ (s.1 = 0 → gI m 274 11 = nI s.2) ∧ (s.1 ≠ 0 → gI m 274 14 = nI (pG B n z s.2)) ∧ s.1 ≤ 9 ∧ s.2 < z ∧ ∃ a, a < z ∧ gI m 274 11 = nI a
/-- only where it stands is written -/
def Fq (m m' : Me) : Prop := Fx (fun x => x = 274) (fun _ => False) m m' ∧ ∀ k, k ≠ 11 → k ≠ 13 → k ≠ 14 → gI m' 274 k = gI m 274 k
theorem Fq.rf {m : Me} : Fq m m := ⟨Fx.rf, fun _ _ _ _ => rfl⟩
theorem Fq.tr {m m' m'' : Me} (h : Fq m m') (k : Fq m' m'') : Fq m m'' := ⟨h.1.tr k.1, fun x a b c => (k.2 x a b c).trans (h.2 x a b c)⟩
theorem Fq.tk {m m' : Me} {B : Nat → Nat} {n z : Nat} (c : Fq m m') (h : TkR m B n z) : TkR m' B n z := ⟨h.1, h.2.1, h.2.2.1, fun j hj => by rw [c.1.at (by decide), c.1.at (by decide), c.1.at (by decide), c.1.aj (by decide)]; exact h.2.2.2 j hj⟩
theorem Fq.wf {m m' : Me} (c : Fq m m') (h : Wf12 m.1 (gR m)) : Wf12 m'.1 (gR m') := c.1.to (F := Wf12) h
theorem Fq.p {m : Me} {k : Nat} {v : Int32} (h : k = 11 ∨ k = 13 ∨ k = 14) : Fq m (sI m 274 (upd (gI m 274) k v)) := ⟨Fx.I Fx.rf rfl, fun j a b c => by rw [gI_s, upd_ne (by omega)]⟩
set_option maxRecDepth 100000 in
set_option maxHeartbeats 8000000 in
theorem ex_gfail {m : Me} {B : Nat → Nat} {n z : Nat} {s : Nat × Nat} (hx : Wf12 m.1 (gR m)) (hT : TkR m B n z) (h : GM m B n z s) {c : Nat} (hc : 0 < c ∧ c ≤ 9) : Ev mX12_fail [.ref 274, .int (nI c)] m (fun o m' => o = none ∧ GM m' B n z (gFl c s) ∧ Fq m m') := by
  refine ⟨plmX12_fail, nle rfl, ?_⟩
  obtain ⟨a, haz, hm⟩ := h.2.2.2.2.2
  have hz := hT.2.1
  have hs9 := h.2.2.2.1
  have hs2 := h.2.2.2.2.1
  refine go_aload_n (q := 0) (i := 0) rfl rfl dX12_fail_0 ?_
  refine go_getI lf12_230 rfl hx.o dX12_fail_1 ?_
  rw [h.1]
  refine gz_le (by omega) (tgt := 8) dX12_fail_4 (by decide) (fun h4 => ?_) (fun h4 => ?_)
  · skip
    refine go_aload_n (q := 0) (i := 0) rfl rfl dX12_fail_8 ?_
    refine go_iload_n (q := 1) (i := 1) rfl rfl dX12_fail_9 ?_
    refine go_putI lf12_230 rfl (Or.inl rfl) hx.o dX12_fail_10 ?_
    refine go_aload_n (q := 0) (i := 0) rfl rfl dX12_fail_13 ?_
    refine go_aload_n (q := 0) (i := 0) rfl rfl dX12_fail_14 ?_
    refine go_getR lf12_24 rfl hx.o hx.r6 dX12_fail_15 ?_
    refine go_aload_n (q := 0) (i := 0) rfl rfl dX12_fail_18 ?_
    refine go_getI lf12_233 rfl hx.o dX12_fail_19 ?_
    rw [show gI (sI m 274 (upd (gI m 274) 13 (nI c))) 274 11 = nI a by rw [gI_s, upd_ne (by decide)]; exact hm]
    refine go_iald (j := a) hx.i6 (by omega) (by first | decide | omega) rfl dX12_fail_22 ?_
    refine go_putI lf12_236 rfl (Or.inl rfl) hx.o dX12_fail_23 ?_
    refine go_vret rfl ⟨Nat.zero_le _, Nat.zero_le _⟩ dX12_fail_26 ?_
    have z0 : s.1 = 0 := by omega
    have has : a = s.2 := nI_i (hm.symm.trans (h.2.1 z0)) (by omega) (by omega)
    rw [show gFl c s = (c, s.2) from if_neg (fun q => q z0)]
    refine ⟨rfl, ⟨?_, fun q => absurd q (by show ¬ c = 0; omega), fun _ => ?_, hc.2, hs2, a, haz, ?_⟩, (Fq.p (Or.inr (Or.inl rfl))).tr (Fq.p (Or.inr (Or.inr rfl)))⟩
    · rw [gI_s, upd_ne (by decide), gI_s, upd_same]
    · rw [gI_s, upd_same, show gI (sI m 274 (upd (gI m 274) 13 (nI c))) 278 = gI m 278 from rfl, (hT.k haz).2, has]
    · rw [gI_s, upd_ne (by decide), gI_s, upd_ne (by decide)]; exact hm
  · skip
    refine go_vret rfl ⟨Nat.zero_le _, Nat.zero_le _⟩ dX12_fail_7 ?_
    rw [show gFl c s = s from if_pos (by omega)]
    exact ⟨rfl, h, Fq.rf⟩
set_option maxRecDepth 100000 in
set_option maxHeartbeats 8000000 in
theorem ex_is {m : Me} {B : Nat → Nat} {n z : Nat} {s : Nat × Nat} (hx : Wf12 m.1 (gR m)) (hT : TkR m B n z) (h : GM m B n z s) {k : Nat} (hk : k ≤ 35) : Ev mX12_is [.ref 274, .int (nI (rk k))] m (fun o m' => o = some (.int (if s.1 = 0 ∧ kG B n z s.2 = k then nI 1 else nI 0)) ∧ m' = m) := by
  refine ⟨plmX12_is, nle rfl, ?_⟩
  obtain ⟨a, haz, hm⟩ := h.2.2.2.2.2
  have hz := hT.2.1
  have hs9 := h.2.2.2.1
  have hs2 := h.2.2.2.2.1
  have hr := rk_le k hk
  have hk35 : kG B n z s.2 ≤ 35 := kG_le
  have hr2 := rk_le _ hk35
  refine go_aload_n (q := 0) (i := 0) rfl rfl dX12_is_0 ?_
  refine go_getI lf12_230 rfl hx.o dX12_is_1 ?_
  rw [h.1]
  refine gz_ne (by omega) (tgt := 24) dX12_is_4 (by decide) (fun h4 => ?_) (fun h4 => ?_)
  · skip
    refine go_iconst (v := nI 0) (by decide) dX12_is_24 ?_
    refine go_zret rfl (by decide) ⟨Nat.zero_le _, Nat.zero_le _⟩ dX12_is_25 ?_
    exact ⟨by rw [if_neg (fun q => h4 q.1)], rfl⟩
  · skip
    refine go_aload_n (q := 0) (i := 0) rfl rfl dX12_is_7 ?_
    refine go_getR lf12_20 rfl hx.o hx.r5 dX12_is_8 ?_
    refine go_aload_n (q := 0) (i := 0) rfl rfl dX12_is_11 ?_
    refine go_getI lf12_233 rfl hx.o dX12_is_12 ?_
    rw [h.2.1 (by omega)]
    refine go_iald (j := s.2) hx.i5 (by omega) (by first | decide | omega) rfl dX12_is_15 ?_
    rw [(hT.k hs2).1]
    refine go_iload_n (q := 1) (i := 1) rfl rfl dX12_is_16 ?_
    refine gn_ne (by omega) (by omega) (tgt := 24) dX12_is_17 (by decide) (fun h17 => ?_) (fun h17 => ?_)
    · skip
      refine go_iconst (v := nI 0) (by decide) dX12_is_24 ?_
      refine go_zret rfl (by decide) ⟨Nat.zero_le _, Nat.zero_le _⟩ dX12_is_25 ?_
      exact ⟨by rw [if_neg (fun q => h17 (by rw [q.2]))], rfl⟩
    · skip
      refine go_iconst (v := nI 1) (by decide) dX12_is_20 ?_
      refine go_goto (tgt := 25) dX12_is_21 (by decide) ?_
      refine go_zret rfl (by decide) ⟨Nat.zero_le _, Nat.zero_le _⟩ dX12_is_25 ?_
      exact ⟨by rw [if_pos ⟨by omega, (rk_i _ hk35 _ hk).mp h17⟩], rfl⟩
/-- one token on -/
def gGo (s : Nat × Nat) : Nat × Nat := if s.1 ≠ 0 then s else if 400 ≤ s.2 then (2, s.2) else (0, s.2 + 1)
theorem gGo_t {K : Nat → Nat} {k : Nat} {s : Nat × Nat} (h : s.1 = 0 → K s.2 = k) : gGo s = gTk K k s := by
  unfold gGo gTk
  by_cases q : s.1 = 0
  · rw [if_neg (show ¬ s.1 ≠ 0 from fun w => w q), if_neg (show ¬ s.1 ≠ 0 from fun w => w q), if_neg (show ¬ K s.2 ≠ k from fun w => w (h q))]
  · rw [if_pos q, if_pos q]
set_option maxRecDepth 100000 in
set_option maxHeartbeats 8000000 in
theorem ex_goesOn {m : Me} {B : Nat → Nat} {n z : Nat} {s : Nat × Nat} (hx : Wf12 m.1 (gR m)) (hT : TkR m B n z) (h : GM m B n z s) (hk : ∀ a, a < z → gI m 274 11 = nI a → kG B n z a < 34) : Ev mX12_goesOn [.ref 274] m (fun o m' => o = none ∧ GM m' B n z (gGo s) ∧ Fq m m') := by
  refine ⟨plmX12_goesOn, nle rfl, ?_⟩
  obtain ⟨a, haz, hm⟩ := h.2.2.2.2.2
  have hz := hT.2.1
  have hs9 := h.2.2.2.1
  have hs2 := h.2.2.2.2.1
  refine go_aload_n (q := 0) (i := 0) rfl rfl dX12_goesOn_0 ?_
  refine go_getI lf12_233 rfl hx.o dX12_goesOn_1 ?_
  rw [hm]
  refine go_sipush (v := nI 400) (by decide) dX12_goesOn_4 ?_
  refine gn_ne (by omega) (by omega) (tgt := 18) dX12_goesOn_7 (by decide) (fun h7 => ?_) (fun h7 => ?_)
  · skip
    refine go_aload_n (q := 0) (i := 0) rfl rfl dX12_goesOn_18 ?_
    refine go_dup rfl dX12_goesOn_19 ?_
    refine go_getI lf12_233 rfl hx.o dX12_goesOn_20 ?_
    rw [hm]
    refine go_iconst (v := nI 1) (by decide) dX12_goesOn_23 ?_
    refine gn_add dX12_goesOn_24 ?_
    refine go_putI lf12_233 rfl (Or.inl rfl) hx.o dX12_goesOn_25 ?_
    refine go_vret rfl ⟨Nat.zero_le _, Nat.zero_le _⟩ dX12_goesOn_28 ?_
    have hnx := hT.nx haz (hk a haz hm) (by omega)
    refine ⟨rfl, ?_, Fq.p (Or.inl rfl)⟩
    unfold gGo
    by_cases q : s.1 = 0
    · have has : a = s.2 := nI_i (hm.symm.trans (h.2.1 q)) (by omega) (by omega)
      rw [if_neg (show ¬ s.1 ≠ 0 from fun w => w q), if_neg (show ¬ 400 ≤ s.2 by omega)]
      refine ⟨?_, fun _ => ?_, fun w => absurd rfl w, by show 0 ≤ 9; omega, by show s.2 + 1 < z; omega, a + 1, hnx, ?_⟩
      · rw [gI_s, upd_ne (by decide), h.1, q]
      · rw [gI_s, upd_same, has]
      · rw [gI_s, upd_same]
    · rw [if_pos q]
      exact ⟨by rw [gI_s, upd_ne (by decide)]; exact h.1, fun w => absurd w q, fun w => by rw [gI_s, upd_ne (by decide)]; exact h.2.2.1 w, hs9, hs2, a + 1, hnx, by rw [gI_s, upd_same]⟩
  · skip
    refine go_aload_n (q := 0) (i := 0) rfl rfl dX12_goesOn_10 ?_
    refine go_iconst (v := nI 2) (by decide) dX12_goesOn_11 ?_
    refine go_callV okmX12_fail lmX12_245 ⟨nle rfl, nle rfl⟩ hx.o ⟨by decide, rfl⟩ (ex_gfail hx hT h (c := 2) (by decide)) npmX12_fail rfl (nle rfl) ⟨nle rfl, nle rfl⟩ dX12_goesOn_12 ?_
    rintro _ m1 ⟨rfl, f1, f2⟩
    refine go_c0 ?_
    refine go_goto (tgt := 28) dX12_goesOn_15 (by decide) ?_
    refine go_vret rfl ⟨Nat.zero_le _, Nat.zero_le _⟩ dX12_goesOn_28 ?_
    refine ⟨rfl, ?_, f2⟩
    rw [show gGo s = gFl 2 s from ?_]
    · exact f1
    · unfold gGo gFl
      by_cases q : s.1 = 0
      · have has : a = s.2 := nI_i (hm.symm.trans (h.2.1 q)) (by omega) (by omega)
        rw [if_neg (show ¬ s.1 ≠ 0 from fun w => w q), if_neg (show ¬ s.1 ≠ 0 from fun w => w q), if_pos (by omega)]
      · rw [if_pos q, if_pos q]
set_option maxRecDepth 100000 in
set_option maxHeartbeats 8000000 in
theorem ex_must {m : Me} {B : Nat → Nat} {n z : Nat} {s : Nat × Nat} (hx : Wf12 m.1 (gR m)) (hT : TkR m B n z) (h : GM m B n z s) {k : Nat} (hk : k < 34) : Ev mX12_must [.ref 274, .int (nI (rk k))] m (fun o m' => o = none ∧ GM m' B n z (gTk (kG B n z) k s) ∧ Fq m m') := by
  refine ⟨plmX12_must, nle rfl, ?_⟩
  obtain ⟨a, haz, hm⟩ := h.2.2.2.2.2
  have hz := hT.2.1
  have hs9 := h.2.2.2.1
  have hs2 := h.2.2.2.2.1
  refine go_aload_n (q := 0) (i := 0) rfl rfl dX12_must_0 ?_
  refine go_iload_n (q := 1) (i := 1) rfl rfl dX12_must_1 ?_
  refine go_callV okmX12_is lmX12_248 ⟨nle rfl, nle rfl⟩ hx.o ⟨by decide, rfl⟩ (ex_is hx hT h (by omega)) npmX12_is rfl (nle rfl) ⟨nle rfl, nle rfl⟩ dX12_must_2 ?_
  rintro _ mz ⟨rfl, hz⟩
  subst mz
  by_cases hs : s.1 = 0 ∧ kG B n z s.2 = k
  · skip
    rw [if_pos hs]
    refine go_c1 ?_
    refine gz_eq (by omega) (tgt := 15) dX12_must_5 (by decide) (fun h5 => by exfalso; omega) (fun h5 => ?_)
    refine go_aload_n (q := 0) (i := 0) rfl rfl dX12_must_8 ?_
    refine go_callV okmX12_goesOn lmX12_251 ⟨nle rfl, nle rfl⟩ hx.o ⟨by decide, rfl⟩ (ex_goesOn hx hT h (fun b hb hm2 => by rw [show b = s.2 from nI_i (hm2.symm.trans (h.2.1 hs.1)) (by omega) (by omega), hs.2]; exact hk)) npmX12_goesOn rfl (nle rfl) ⟨nle rfl, nle rfl⟩ dX12_must_9 ?_
    rintro _ m1 ⟨rfl, f1, f2⟩
    refine go_c0 ?_
    refine go_goto (tgt := 20) dX12_must_12 (by decide) ?_
    refine go_vret rfl ⟨Nat.zero_le _, Nat.zero_le _⟩ dX12_must_20 ?_
    rw [← gGo_t (fun _ => hs.2)]
    exact ⟨rfl, f1, f2⟩
  · skip
    rw [if_neg hs]
    refine go_c1 ?_
    refine gz_eq (by omega) (tgt := 15) dX12_must_5 (by decide) (fun h5 => ?_) (fun h5 => by exfalso; omega)
    refine go_aload_n (q := 0) (i := 0) rfl rfl dX12_must_15 ?_
    refine go_iconst (v := nI 1) (by decide) dX12_must_16 ?_
    refine go_callV okmX12_fail lmX12_245 ⟨nle rfl, nle rfl⟩ hx.o ⟨by decide, rfl⟩ (ex_gfail hx hT h (c := 1) (by decide)) npmX12_fail rfl (nle rfl) ⟨nle rfl, nle rfl⟩ dX12_must_17 ?_
    rintro _ m1 ⟨rfl, f1, f2⟩
    refine go_c0 ?_
    refine go_vret rfl ⟨Nat.zero_le _, Nat.zero_le _⟩ dX12_must_20 ?_
    rw [← gTk_1 (fun q w => hs ⟨q, w⟩)]
    exact ⟨rfl, f1, f2⟩
