/-- what reading a law's tokens writes: where it stands, the code from c0 on, what waits -/
def Fr (c0 : Nat) (m m' : Me) : Prop := Fx (fun x => x = 274 ∨ x = 310 ∨ x = 311 ∨ x = 312) (fun _ => False) m m' ∧ (∀ k, k ≠ 11 → k ≠ 12 → k ≠ 13 → k ≠ 14 → k ≠ 50 → k ≠ 54 → gI m' 274 k = gI m 274 k) ∧ ∀ j, (j < c0 ∨ c0 + 420 ≤ j) → gI m' 310 j = gI m 310 j ∧ gI m' 311 j = gI m 311 j
theorem Fr.rf {c0 : Nat} {m : Me} : Fr c0 m m := ⟨Fx.rf, fun _ _ _ _ _ _ _ => rfl, fun _ _ => ⟨rfl, rfl⟩⟩
theorem Fr.tr {c0 : Nat} {m m' m'' : Me} (h : Fr c0 m m') (k : Fr c0 m' m'') : Fr c0 m m'' := ⟨h.1.tr k.1, fun x a b c d e f => (k.2.1 x a b c d e f).trans (h.2.1 x a b c d e f), fun j hj => ⟨(k.2.2 j hj).1.trans (h.2.2 j hj).1, (k.2.2 j hj).2.trans (h.2.2 j hj).2⟩⟩
theorem Fe.fr {c0 : Nat} {m m' : Me} (h : Fe c0 m m') : Fr c0 m m' := ⟨h.1, fun k _ _ _ _ a b => h.2.1 k a b, h.2.2⟩
theorem Fq.fr {c0 : Nat} {m m' : Me} (h : Fq m m') : Fr c0 m m' := ⟨h.1.mn (fun x a => Or.inl a) (fun _ a => a), fun k a _ b c _ _ => h.2 k a b c, fun j _ => ⟨by rw [h.1.at (by decide)], by rw [h.1.at (by decide)]⟩⟩
theorem Fr.wf {c0 : Nat} {m m' : Me} (c : Fr c0 m m') (h : Wf12 m.1 (gR m)) : Wf12 m'.1 (gR m') := c.1.to (F := Wf12) h
theorem Fr.tk {c0 : Nat} {m m' : Me} {B : Nat → Nat} {n z : Nat} (c : Fr c0 m m') (h : TkR m B n z) : TkR m' B n z := ⟨h.1, h.2.1, h.2.2.1, fun j hj => by rw [c.1.at (by decide), c.1.at (by decide), c.1.at (by decide), c.1.aj (fun a => a)]; exact h.2.2.2 j hj⟩
theorem RC.fld {m : Me} {c0 k : Nat} {W : List Nat} {D : Cs} {v : Int32} (h : RC m c0 W D) (a : k ≠ 50) (b : k ≠ 54) : RC (sI m 274 (upd (gI m 274) k v)) c0 W D := ⟨by rw [gI_s, upd_ne a.symm]; exact h.1, fun i c hi => by rw [gI_n (by decide), gI_n (by decide)]; exact h.2.1 i c hi, by rw [gI_s, upd_ne b.symm]; exact h.2.2.1, fun i k hi => by rw [gI_n (by decide)]; exact h.2.2.2 i k hi⟩
theorem RC.fq {m m' : Me} {c0 : Nat} {W : List Nat} {D : Cs} (h : RC m c0 W D) (c : Fq m m') : RC m' c0 W D := ⟨by rw [c.2 50 (by decide) (by decide) (by decide)]; exact h.1, fun i d hi => by rw [c.1.at (by decide), c.1.at (by decide)]; exact h.2.1 i d hi, by rw [c.2 54 (by decide) (by decide) (by decide)]; exact h.2.2.1, fun i k hi => by rw [c.1.at (by decide)]; exact h.2.2.2 i k hi⟩
theorem GM.fld {m : Me} {B : Nat → Nat} {n z k : Nat} {s : Nat × Nat} {v : Int32} (h : GM m B n z s) (a : k ≠ 11) (b : k ≠ 13) (c : k ≠ 14) : GM (sI m 274 (upd (gI m 274) k v)) B n z s := ⟨by rw [gI_s, upd_ne b.symm]; exact h.1, fun q => by rw [gI_s, upd_ne a.symm]; exact h.2.1 q, fun q => by rw [gI_s, upd_ne c.symm]; exact h.2.2.1 q, h.2.2.2.1, h.2.2.2.2.1, by
  obtain ⟨x, y, w⟩ := h.2.2.2.2.2
  exact ⟨x, y, by rw [gI_s, upd_ne a.symm]; exact w⟩⟩
theorem GM.of {m m' : Me} {B : Nat → Nat} {n z : Nat} {s : Nat × Nat} (h : GM m B n z s) (a : gI m' 274 11 = gI m 274 11) (b : gI m' 274 13 = gI m 274 13) (c : gI m' 274 14 = gI m 274 14) : GM m' B n z s := by
  unfold GM
  rw [a, b, c]
  exact h
/-- the whole that reading a law stands on -/
def XB (c0 : Nat) (B : Nat → Nat) (n z : Nat) (m0 m : Me) (s : Nat × Nat) (W : List Nat) (D : Cs) : Prop := Wf12 m.1 (gR m) ∧ TkR m B n z ∧ GM m B n z s ∧ RC m c0 W D ∧ Fr c0 m0 m ∧ c0 ≤ 420
section XBS
variable {c0 : Nat} {B : Nat → Nat} {n z : Nat} {m0 m m' : Me} {s s' : Nat × Nat} {W W' : List Nat} {D D' : Cs}
theorem XB.fq (h : XB c0 B n z m0 m s W D) (g : GM m' B n z s') (c : Fq m m') : XB c0 B n z m0 m' s' W D := ⟨c.wf h.1, c.tk h.2.1, g, h.2.2.2.1.fq c, h.2.2.2.2.1.tr c.fr, h.2.2.2.2.2⟩
theorem XB.fe (h : XB c0 B n z m0 m s W D) (r : RC m' c0 W' D') (c : Fe c0 m m') : XB c0 B n z m0 m' s W' D' := ⟨c.wf h.1, c.fr.tk h.2.1, h.2.2.1.of (c.2.1 11 (by decide) (by decide)) (c.2.1 13 (by decide) (by decide)) (c.2.1 14 (by decide) (by decide)), r, h.2.2.2.2.1.tr c.fr, h.2.2.2.2.2⟩
theorem XB.op {v : Int32} (h : XB c0 B n z m0 m s W D) : XB c0 B n z m0 (sI m 274 (upd (gI m 274) 12 v)) s W D := by
  have c : Fr c0 m (sI m 274 (upd (gI m 274) 12 v)) := ⟨Fx.I Fx.rf (Or.inl rfl), fun k _ a _ _ _ _ => by rw [gI_s, upd_ne a], fun j _ => ⟨by rw [gI_n (by decide)], by rw [gI_n (by decide)]⟩⟩
  exact ⟨c.wf h.1, c.tk h.2.1, h.2.2.1.fld (by decide) (by decide) (by decide), h.2.2.2.1.fld (by decide) (by decide), h.2.2.2.2.1.tr c, h.2.2.2.2.2⟩
theorem XB.push {k : Nat} (h : XB c0 B n z m0 m s W D) {u : Int32} (hu : u = nI (rk k)) : XB c0 B n z m0 (sI (sI m 312 (upd (gI m 312) W.length u)) 274 (upd (gI (sI m 312 (upd (gI m 312) W.length u)) 274) 54 (nI (W.length + 1)))) s (k :: W) D := by
  subst hu
  have hr := h.2.2.2.1
  refine h.fe ⟨?_, fun i c hi => ?_, ?_, fun i j hi => ?_⟩ ⟨Fx.I (Fx.I Fx.rf (Or.inr (Or.inr (Or.inr rfl)))) (Or.inl rfl), fun j a b => ?_, fun j _ => ⟨?_, ?_⟩⟩
  · rw [gI_s, upd_ne (by decide), gI_n (by decide)]; exact hr.1
  · rw [gI_n (by decide), gI_n (by decide), gI_n (by decide), gI_n (by decide)]; exact hr.2.1 i c hi
  · rw [gI_s, upd_same]; rfl
  · rw [gI_n (by decide), gI_s]
    by_cases q : i < W.length
    · rw [upd_ne (by omega)]
      refine hr.2.2.2 i j ?_
      rw [List.reverse_cons, List.getElem?_append_left (by rw [List.length_reverse]; exact q)] at hi
      exact hi
    · have hlt := (List.getElem?_eq_some_iff.mp hi).1
      rw [List.length_reverse] at hlt
      have hlt : i < W.length + 1 := hlt
      have e : i = W.length := by omega
      subst e
      rw [List.reverse_cons, List.getElem?_append_right (by rw [List.length_reverse]; omega), List.length_reverse, Nat.sub_self] at hi
      cases hi
      exact upd_same
  · rw [gI_s, upd_ne b, gI_n (by decide)]
  · rw [gI_n (by decide), gI_n (by decide)]
  · rw [gI_n (by decide), gI_n (by decide)]
theorem XB.pop {k : Nat} (h : XB c0 B n z m0 m s (k :: W) D) : XB c0 B n z m0 (sI m 274 (upd (gI m 274) 54 (nI W.length))) s W D := h.fe h.2.2.2.1.pop (Fe.p (Or.inr rfl))
theorem XB.x (h : XB c0 B n z m0 m s W D) : Wf12 m.1 (gR m) := h.1
theorem XB.t (h : XB c0 B n z m0 m s W D) : TkR m B n z := h.2.1
theorem XB.g (h : XB c0 B n z m0 m s W D) : GM m B n z s := h.2.2.1
theorem XB.r (h : XB c0 B n z m0 m s W D) : RC m c0 W D := h.2.2.2.1
theorem XB.f (h : XB c0 B n z m0 m s W D) : Fr c0 m0 m := h.2.2.2.2.1
theorem XB.c (h : XB c0 B n z m0 m s W D) : c0 ≤ 420 := h.2.2.2.2.2
theorem XB.w (h : XB c0 B n z m0 m s W D) : gI m 274 54 = nI W.length := h.r.2.2.1
theorem XB.fa (h : XB c0 B n z m0 m s W D) : gI m 274 13 = nI s.1 := h.g.1
theorem XB.nx (h : XB c0 B n z m0 m s W D) (h0 : s.1 = 0) (hk : kG B n z s.2 < 34) : ∀ a, a < z → gI m 274 11 = nI a → kG B n z a < 34 := fun a ha hm => by
  have := h.t.2.1
  have := h.g.2.2.2.2.1
  rw [show a = s.2 from nI_i (hm.symm.trans (h.g.2.1 h0)) (by omega) (by omega)]
  exact hk
end XBS
theorem eS_o : ∀ (W : List Nat) (r : Nat), eS r W → ∀ k ∈ W, wO k
  | [], _, _, k, hk => by cases hk
  | j :: W, r, h, k, hk => by
    rcases List.mem_cons.mp hk with e | e
    · subst e
      rcases h with ⟨e, _⟩ | ⟨h1, _, _⟩
      · exact Or.inl e
      · have := rnk_o h1
        unfold wO; omega
    · rcases h with ⟨_, h⟩ | ⟨_, _, h⟩
      · exact eS_o W 3 h k e
      · exact eS_o W _ h k e
set_option maxRecDepth 100000 in
set_option maxHeartbeats 8000000 in
theorem ex_gfailT {m : Me} {B : Nat → Nat} {n z : Nat} {s : Nat × Nat} (hx : Wf12 m.1 (gR m)) (hT : TkR m B n z) (h : GM m B n z s) {c : Nat} (hc : 0 < c ∧ c ≤ 9) : Ev mX12_fail [.ref 274, .int (nI c)] m (fun o m' => o = none ∧ GM m' B n z (gFl c s) ∧ Fq m m' ∧ gI m' 274 11 = gI m 274 11) := by
  refine ⟨plmX12_fail, nle rfl, ?_⟩
  obtain ⟨a, haz, hm⟩ := h.2.2.2.2.2
  have hz := hT.2.1
  have hs9 := h.2.2.2.1
  have hs2 := h.2.2.2.2.1
  refine go_aload_n (q := 0) (i := 0) rfl rfl dX12_fail_0 ?_
  refine go_getI lf12_230 rfl hx.o dX12_fail_1 ?_
  rw [h.1]
  refine gz_le (by omega) (tgt := 8) dX12_fail_4 (by decide) (fun h4 => ?_) (fun h4 => ?_)
  · skip
    refine go_aload_n (q := 0) (i := 0) rfl rfl dX12_fail_8 ?_
    refine go_iload_n (q := 1) (i := 1) rfl rfl dX12_fail_9 ?_
    refine go_putI lf12_230 rfl (Or.inl rfl) hx.o dX12_fail_10 ?_
    refine go_aload_n (q := 0) (i := 0) rfl rfl dX12_fail_13 ?_
    refine go_aload_n (q := 0) (i := 0) rfl rfl dX12_fail_14 ?_
    refine go_getR lf12_24 rfl hx.o hx.r6 dX12_fail_15 ?_
    refine go_aload_n (q := 0) (i := 0) rfl rfl dX12_fail_18 ?_
    refine go_getI lf12_233 rfl hx.o dX12_fail_19 ?_
    rw [show gI (sI m 274 (upd (gI m 274) 13 (nI c))) 274 11 = nI a by rw [gI_s, upd_ne (by decide)]; exact hm]
    refine go_iald (j := a) hx.i6 (by omega) (by first | decide | omega) rfl dX12_fail_22 ?_
    refine go_putI lf12_236 rfl (Or.inl rfl) hx.o dX12_fail_23 ?_
    refine go_vret rfl ⟨Nat.zero_le _, Nat.zero_le _⟩ dX12_fail_26 ?_
    have z0 : s.1 = 0 := by omega
    have has : a = s.2 := nI_i (hm.symm.trans (h.2.1 z0)) (by omega) (by omega)
    rw [show gFl c s = (c, s.2) from if_neg (fun q => q z0)]
    refine ⟨rfl, ⟨?_, fun q => absurd q (by show ¬ c = 0; omega), fun _ => ?_, hc.2, hs2, a, haz, ?_⟩, (Fq.p (Or.inr (Or.inl rfl))).tr (Fq.p (Or.inr (Or.inr rfl))), ?_⟩
    · rw [gI_s, upd_ne (by decide), gI_s, upd_same]
    · rw [gI_s, upd_same, show gI (sI m 274 (upd (gI m 274) 13 (nI c))) 278 = gI m 278 from rfl, (hT.k haz).2, has]
    · rw [gI_s, upd_ne (by decide), gI_s, upd_ne (by decide)]; exact hm
    · rw [gI_s, upd_ne (by decide), gI_s, upd_ne (by decide)]
  · skip
    refine go_vret rfl ⟨Nat.zero_le _, Nat.zero_le _⟩ dX12_fail_7 ?_
    rw [show gFl c s = s from if_pos (by omega)]
    exact ⟨rfl, h, Fq.rf, rfl⟩
theorem rk_u : ∀ k, k ≤ 35 → 14 ≤ k → k ≤ 22 → rk k = 20 + k := by decide +kernel
theorem rk_f : ∀ k, k ≤ 35 → 34 ≤ rk k → rk k ≤ 42 → 14 ≤ k ∧ k ≤ 22 ∧ rk k = 20 + k := by decide +kernel
set_option maxRecDepth 100000 in
set_option maxHeartbeats 8000000 in
theorem ex_unit {c0 : Nat} {B : Nat → Nat} {n z : Nat} {m0 m : Me} {s : Nat × Nat} {W : List Nat} {D : Cs} (h : XB c0 B n z m0 m s W D) (hd : D.length < 420) : Ev mX12_unit [.ref 274] m (fun o m' => o = none ∧ ∃ D', XB c0 B n z m0 m' (gTk (kG B n z) (if isU (kG B n z s.2) then kG B n z s.2 else 24) s) W D' ∧ gI m' 274 12 = gI m 274 12 ∧ D'.length ≤ D.length + 1 ∧ ((s.1 ≠ 0 ∨ ¬ isU (kG B n z s.2)) → D' = D) ∧ (s.1 = 0 → isU (kG B n z s.2) → (W, D') = eTok (kG B n z s.2) (vG B n z s.2) (W, D))) := by
  refine ⟨plmX12_unit, nle rfl, ?_⟩
  have hx := h.x
  have hk35 : kG B n z s.2 ≤ 35 := kG_le
  have hz := h.t.2.1
  have hz2 := h.g.2.2.2.2.1
  have hs9 := h.g.2.2.2.1
  have hru : 14 ≤ kG B n z s.2 → kG B n z s.2 ≤ 22 → rk (kG B n z s.2) = 20 + kG B n z s.2 := rk_u _ hk35
  refine go_aload_n (q := 0) (i := 0) rfl rfl dX12_unit_0 ?_
  refine go_iconst (v := nI 2) (by decide) dX12_unit_1 ?_
  refine go_callV okmX12_is lmX12_248 ⟨nle rfl, nle rfl⟩ hx.o ⟨by decide, rfl⟩ (ex_is h.x h.t h.g (k := 24) (by decide)) npmX12_is rfl (nle rfl) ⟨nle rfl, nle rfl⟩ dX12_unit_2 ?_
  rintro _ mz ⟨rfl, hz⟩
  subst mz
  by_cases hs : s.1 = 0 ∧ kG B n z s.2 = 24
  · skip
    rw [if_pos hs]
    refine go_c1 ?_
    refine gz_eq (by omega) (tgt := 29) dX12_unit_5 (by decide) (fun h5 => by exfalso; omega) (fun h5 => ?_)
    refine go_aload_n (q := 0) (i := 0) rfl rfl dX12_unit_8 ?_
    refine go_iconst (v := nI 0) (by decide) dX12_unit_9 ?_
    refine go_aload_n (q := 0) (i := 0) rfl rfl dX12_unit_10 ?_
    refine go_getR lf12_27 rfl hx.o hx.r7 dX12_unit_11 ?_
    refine go_aload_n (q := 0) (i := 0) rfl rfl dX12_unit_14 ?_
    refine go_getI lf12_233 rfl hx.o dX12_unit_15 ?_
    rw [h.g.2.1 hs.1]
    refine go_iald (j := s.2) hx.i7 (by omega) (by first | decide | omega) rfl dX12_unit_18 ?_
    rw [show gI m 279 s.2 = nI (vG B n z s.2) by unfold vG; rw [if_pos hz2]; exact (h.t.2.2.2 s.2 hz2).2.2.1 (by have := hs.2; unfold kG at this; rw [if_pos hz2] at this; exact this)]
    refine go_callV okmX12_emit lmX12_347 ⟨nle rfl, nle rfl⟩ hx.o ⟨by decide, rfl⟩ (ex_emit hx h.r hd h.c) npmX12_emit rfl (nle rfl) ⟨nle rfl, nle rfl⟩ dX12_unit_19 ?_
    rintro _ m2 ⟨rfl, r2, c2⟩
    have h2 := h.fe r2 c2
    have hx := h2.x
    refine go_c0 ?_
    refine go_aload_n (q := 0) (i := 0) rfl rfl dX12_unit_22 ?_
    refine go_callV okmX12_goesOn lmX12_251 ⟨nle rfl, nle rfl⟩ hx.o ⟨by decide, rfl⟩ (ex_goesOn hx h2.t h2.g (h2.nx hs.1 (by rw [hs.2]; decide))) npmX12_goesOn rfl (nle rfl) ⟨nle rfl, nle rfl⟩ dX12_unit_23 ?_
    rintro _ m3 ⟨rfl, f1, f2⟩
    refine go_c0 ?_
    refine go_goto (tgt := 93) dX12_unit_26 (by decide) ?_
    refine go_vret rfl ⟨Nat.zero_le _, Nat.zero_le _⟩ dX12_unit_93 ?_
    have hu : isU (kG B n z s.2) := Or.inl hs.2
    refine ⟨rfl, D ++ [(0, vG B n z s.2)], ?_, (f2.2 12 (by decide) (by decide) (by decide)).trans (c2.2.1 12 (by decide) (by decide)), by rw [List.length_append]; exact Nat.le_refl _, fun q => by rcases q with q | q; exact absurd hs.1 q; exact absurd hu q, fun _ _ => ?_⟩
    · have e : gGo s = gTk (kG B n z) (if isU (kG B n z s.2) then kG B n z s.2 else 24) s := gGo_t (fun _ => by rw [if_pos hu])
      rw [← e]
      exact h2.fq f1 f2
    · rw [eTok_u hu]
      congr 2
      rw [if_pos hs.2]
  · skip
    rw [if_neg hs]
    refine go_c1 ?_
    refine gz_eq (by omega) (tgt := 29) dX12_unit_5 (by decide) (fun h5 => ?_) (fun h5 => by exfalso; omega)
    refine go_aload_n (q := 0) (i := 0) rfl rfl dX12_unit_29 ?_
    refine go_getI lf12_230 rfl hx.o dX12_unit_30 ?_
    rw [h.fa]
    refine gz_ne (by omega) (tgt := 88) dX12_unit_33 (by decide) (fun h33 => ?_) (fun h33 => ?_)
    · skip
      refine go_aload_n (q := 0) (i := 0) rfl rfl dX12_unit_88 ?_
      refine go_iconst (v := nI 1) (by decide) dX12_unit_89 ?_
      refine go_callV okmX12_fail lmX12_245 ⟨nle rfl, nle rfl⟩ hx.o ⟨by decide, rfl⟩ (ex_gfail hx h.t h.g (c := 1) (by decide)) npmX12_fail rfl (nle rfl) ⟨nle rfl, nle rfl⟩ dX12_unit_90 ?_
      rintro _ m3 ⟨rfl, f1, f2⟩
      refine go_c0 ?_
      refine go_vret rfl ⟨Nat.zero_le _, Nat.zero_le _⟩ dX12_unit_93 ?_
      have hu : ¬ (s.1 = 0 ∧ isU (kG B n z s.2)) := fun q => by unfold isU at q; omega
      refine ⟨rfl, D, ?_, f2.2 12 (by decide) (by decide) (by decide), by omega, fun _ => rfl, fun a b => absurd ⟨a, b⟩ hu⟩
      have e : gFl 1 s = gTk (kG B n z) (if isU (kG B n z s.2) then kG B n z s.2 else 24) s := gTk_1 (fun q => by
        rw [if_neg (fun w => hu ⟨q, w⟩)]
        intro w
        exact hu ⟨q, Or.inl w⟩)
      rw [← e]
      exact h.fq f1 f2
    · skip
      refine go_aload_n (q := 0) (i := 0) rfl rfl dX12_unit_36 ?_
      refine go_getR lf12_20 rfl hx.o hx.r5 dX12_unit_37 ?_
      refine go_aload_n (q := 0) (i := 0) rfl rfl dX12_unit_40 ?_
      refine go_getI lf12_233 rfl hx.o dX12_unit_41 ?_
      have h0 : s.1 = 0 := by omega
      rw [h.g.2.1 h0]
      refine go_iald (j := s.2) hx.i5 (by omega) (by first | decide | omega) rfl dX12_unit_44 ?_
      rw [(h.t.k hz2).1]
      have hrk := rk_le _ hk35
      have hrr : 34 ≤ rk (kG B n z s.2) → rk (kG B n z s.2) ≤ 42 → 14 ≤ kG B n z s.2 ∧ kG B n z s.2 ≤ 22 ∧ rk (kG B n z s.2) = 20 + kG B n z s.2 := rk_f _ hk35
      refine go_bipush (v := nI 34) (by decide) dX12_unit_45 ?_
      refine gn_lt (by omega) (by omega) (tgt := 88) dX12_unit_47 (by decide) (fun h47 => ?_) (fun h47 => ?_)
      · skip
        refine go_aload_n (q := 0) (i := 0) rfl rfl dX12_unit_88 ?_
        refine go_iconst (v := nI 1) (by decide) dX12_unit_89 ?_
        refine go_callV okmX12_fail lmX12_245 ⟨nle rfl, nle rfl⟩ hx.o ⟨by decide, rfl⟩ (ex_gfail hx h.t h.g (c := 1) (by decide)) npmX12_fail rfl (nle rfl) ⟨nle rfl, nle rfl⟩ dX12_unit_90 ?_
        rintro _ m3 ⟨rfl, f1, f2⟩
        refine go_c0 ?_
        refine go_vret rfl ⟨Nat.zero_le _, Nat.zero_le _⟩ dX12_unit_93 ?_
        have hu : ¬ (s.1 = 0 ∧ isU (kG B n z s.2)) := fun q => by unfold isU at q; omega
        refine ⟨rfl, D, ?_, f2.2 12 (by decide) (by decide) (by decide), by omega, fun _ => rfl, fun a b => absurd ⟨a, b⟩ hu⟩
        have e : gFl 1 s = gTk (kG B n z) (if isU (kG B n z s.2) then kG B n z s.2 else 24) s := gTk_1 (fun q => by
          rw [if_neg (fun w => hu ⟨q, w⟩)]
          intro w
          exact hu ⟨q, Or.inl w⟩)
        rw [← e]
        exact h.fq f1 f2
      · skip
        refine go_aload_n (q := 0) (i := 0) rfl rfl dX12_unit_50 ?_
        refine go_getR lf12_20 rfl hx.o hx.r5 dX12_unit_51 ?_
        refine go_aload_n (q := 0) (i := 0) rfl rfl dX12_unit_54 ?_
        refine go_getI lf12_233 rfl hx.o dX12_unit_55 ?_
        rw [h.g.2.1 h0]
        refine go_iald (j := s.2) hx.i5 (by omega) (by first | decide | omega) rfl dX12_unit_58 ?_
        rw [(h.t.k hz2).1]
        refine go_bipush (v := nI 42) (by decide) dX12_unit_59 ?_
        refine gn_gt (by omega) (by omega) (tgt := 88) dX12_unit_61 (by decide) (fun h61 => ?_) (fun h61 => ?_)
        · skip
          refine go_aload_n (q := 0) (i := 0) rfl rfl dX12_unit_88 ?_
          refine go_iconst (v := nI 1) (by decide) dX12_unit_89 ?_
          refine go_callV okmX12_fail lmX12_245 ⟨nle rfl, nle rfl⟩ hx.o ⟨by decide, rfl⟩ (ex_gfail hx h.t h.g (c := 1) (by decide)) npmX12_fail rfl (nle rfl) ⟨nle rfl, nle rfl⟩ dX12_unit_90 ?_
          rintro _ m3 ⟨rfl, f1, f2⟩
          refine go_c0 ?_
          refine go_vret rfl ⟨Nat.zero_le _, Nat.zero_le _⟩ dX12_unit_93 ?_
          have hu : ¬ (s.1 = 0 ∧ isU (kG B n z s.2)) := fun q => by unfold isU at q; omega
          refine ⟨rfl, D, ?_, f2.2 12 (by decide) (by decide) (by decide), by omega, fun _ => rfl, fun a b => absurd ⟨a, b⟩ hu⟩
          have e : gFl 1 s = gTk (kG B n z) (if isU (kG B n z s.2) then kG B n z s.2 else 24) s := gTk_1 (fun q => by
            rw [if_neg (fun w => hu ⟨q, w⟩)]
            intro w
            exact hu ⟨q, Or.inl w⟩)
          rw [← e]
          exact h.fq f1 f2
        · skip
          refine go_aload_n (q := 0) (i := 0) rfl rfl dX12_unit_64 ?_
          refine go_iconst (v := nI 1) (by decide) dX12_unit_65 ?_
          refine go_aload_n (q := 0) (i := 0) rfl rfl dX12_unit_66 ?_
          refine go_getR lf12_20 rfl hx.o hx.r5 dX12_unit_67 ?_
          refine go_aload_n (q := 0) (i := 0) rfl rfl dX12_unit_70 ?_
          refine go_getI lf12_233 rfl hx.o dX12_unit_71 ?_
          have hrr := hrr (by omega) (by omega)
          rw [h.g.2.1 h0]
          refine go_iald (j := s.2) hx.i5 (by omega) (by first | decide | omega) rfl dX12_unit_74 ?_
          rw [(h.t.k hz2).1, hrr.2.2]
          refine go_bipush (v := nI 34) (by decide) dX12_unit_75 ?_
          refine gn_sub (by omega) dX12_unit_77 ?_
          rw [show 20 + kG B n z s.2 - 34 = kG B n z s.2 - 14 by omega]
          refine go_callV okmX12_emit lmX12_347 ⟨nle rfl, nle rfl⟩ hx.o ⟨by decide, rfl⟩ (ex_emit hx h.r hd h.c) npmX12_emit rfl (nle rfl) ⟨nle rfl, nle rfl⟩ dX12_unit_78 ?_
          rintro _ m2 ⟨rfl, r2, c2⟩
          have h2 := h.fe r2 c2
          have hx := h2.x
          refine go_c0 ?_
          refine go_aload_n (q := 0) (i := 0) rfl rfl dX12_unit_81 ?_
          refine go_callV okmX12_goesOn lmX12_251 ⟨nle rfl, nle rfl⟩ hx.o ⟨by decide, rfl⟩ (ex_goesOn hx h2.t h2.g (h2.nx h0 (by omega))) npmX12_goesOn rfl (nle rfl) ⟨nle rfl, nle rfl⟩ dX12_unit_82 ?_
          rintro _ m3 ⟨rfl, f1, f2⟩
          refine go_c0 ?_
          refine go_goto (tgt := 93) dX12_unit_85 (by decide) ?_
          refine go_vret rfl ⟨Nat.zero_le _, Nat.zero_le _⟩ dX12_unit_93 ?_
          have hu : isU (kG B n z s.2) := Or.inr ⟨by omega, by omega⟩
          refine ⟨rfl, D ++ [(1, kG B n z s.2 - 14)], ?_, (f2.2 12 (by decide) (by decide) (by decide)).trans (c2.2.1 12 (by decide) (by decide)), by rw [List.length_append]; exact Nat.le_refl _, fun q => by rcases q with q | q; exact absurd h0 q; exact absurd hu q, fun _ _ => ?_⟩
          · have e : gGo s = gTk (kG B n z) (if isU (kG B n z s.2) then kG B n z s.2 else 24) s := gGo_t (fun _ => by rw [if_pos hu])
            rw [← e]
            exact h2.fq f1 f2
          · rw [eTok_u hu]
            congr 2
            rw [if_neg (by omega)]
