theorem dA_e {K V : Nat → Nat} {N : Nat → List Nat} {p : Nat} {D : Dr} {w : Nat × Nat} (h : K p = 34) : ∀ (f : Nat) (c : Nat → Nat), dA K V N f c p D w = (D, w)
  | 0, _ => rfl
  | f + 1, c => by rw [dA, if_pos h]
theorem dA_t {K V : Nat → Nat} {N : Nat → List Nat} {p f : Nat} {c : Nat → Nat} {D : Dr} {w : Nat × Nat} (h : K p ≠ 34) : dA K V N (f + 1) c p D w = dA K V N f (gUp (K p) c) (gTell K c (K p) (0, p)).2 (teD K V N (K p) p D) (teW V N (K p) p D w) := by rw [dA, if_neg h]
theorem chk_end {K : Nat → Nat} {q : Nat} : ∀ (f p : Nat) (c : Nat → Nat), 401 ≤ f + p → p ≤ 400 → gChk K f c (0, p) = (0, q) → K q = 34 ∧ q ≤ 400 ∧ p ≤ q
  | 0, p, c, h1, h2, h3 => by omega
  | f + 1, p, c, h1, h2, h3 => by
    by_cases k : K p = 34
    · rw [gChk_e k] at h3
      have e : p = q := congrArg Prod.snd h3
      subst e
      exact ⟨k, h2, Nat.le_refl _⟩
    · obtain ⟨a, r, e1, e2, e3⟩ := chk_step h3 k
      obtain ⟨b1, b2, -⟩ := te_sk e2 rfl a
      obtain ⟨d1, d2, d3⟩ := chk_end f r _ (by omega) b2 e3
      exact ⟨d1, d2, by omega⟩
theorem teW_z {V : Nat → Nat} {N : Nat → List Nat} {k p : Nat} {D : Dr} {w : Nat × Nat} (h : (teW V N k p D w).1 = 0) : w.1 = 0 := by
  by_cases q : w.1 = 0
  · exact q
  · rw [teW_s q] at h; exact h
theorem dA_ok {K V : Nat → Nat} {N : Nat → List Nat} {q : Nat} (hn : ∀ j, K j = 23 → NmO (N j)) (hV : ∀ j, K j = 24 → V j < 65536) : ∀ (f p : Nat) (c : Nat → Nat) (D : Dr) (w : Nat × Nat), 401 ≤ f + p → p ≤ 400 → gChk K f c (0, p) = (0, q) → CnW c D → (w.1 = 0 → DrO D ∧ NmD D) → (∃ c', CnW c' (dA K V N f c p D w).1) ∧ ((dA K V N f c p D w).2.1 = 0 → DrO (dA K V N f c p D w).1 ∧ NmD (dA K V N f c p D w).1)
  | 0, p, c, D, w, h1, h2, h3, hc, hd => ⟨⟨c, hc⟩, hd⟩
  | f + 1, p, c, D, w, h1, h2, h3, hc, hd => by
    by_cases k : K p = 34
    · rw [dA_e k]
      exact ⟨⟨c, hc⟩, hd⟩
    · obtain ⟨a, r, e1, e2, e3⟩ := chk_step h3 k
      obtain ⟨b1, b2, -⟩ := te_sk e2 rfl a
      rw [dA_t k, e1]
      refine dA_ok hn hV f r _ _ _ (by omega) b2 e3 (te_cn e2 hn hc) (fun z => ?_)
      obtain ⟨x, y⟩ := hd (teW_z z)
      exact te_ok e2 hn hV z hc.2 x y
theorem bmx_iff {b : Nat → Nat → Nat} {q N : Nat} : ∀ n, bmx b q n ≤ N ↔ ∀ i, i < n → b i q + 1 ≤ N
  | 0 => ⟨fun _ i hi => absurd hi (Nat.not_lt_zero i), fun _ => Nat.zero_le _⟩
  | n + 1 => by
    have ih := bmx_iff (b := b) (q := q) (N := N) n
    rw [bmx]
    refine ⟨fun h i hi => ?_, fun h => ?_⟩
    · rcases lt_dec hi with rfl | hi
      · omega
      · exact ih.mp (by omega) i hi
    · have h1 := ih.mpr (fun i hi => h i (by omega))
      have h2 := h n (by omega)
      omega
theorem fx_lt {a b : Nat} (ha : a < 2 ^ 20) (hb : b < 2 ^ 20) : nI a - nI 1 < nI b ↔ a ≤ b := by
  rw [Int32.lt_iff_toInt_lt, pk_sub_toInt (by omega) (by omega), nI_toInt (by omega)]
  omega
/-- the land is told as the class looks at it -/
theorem la_i {m : Me} {dr b : Nat} {D : Dr} {c : Nat → Nat} (h : DrC m dr D b) (hd : DrO D) (hc : CnW c D) : laO D ↔ (∀ c, c < 40 → gI m (dr + 1) c < gI m dr 2 ∨ gI m (dr + 1) c = nI 9) ∧ gI m 10 2 < gI m dr 0 ∧ gI m 10 3 < gI m dr 1 := by
  obtain ⟨⟨h0, h1, h2, h3, h4, h5', h6, h7⟩, hw, hf, hr, hu, hn, hx, hlw⟩ := h
  obtain ⟨y0, y1, y2, y3, y4, z0, z1, z2, z3⟩ := hc
  have hm0 := bmx_le (b := D.bk) (q := 0) (N := 8) (D.n 4) (fun i hi => by have := (hd.2.2.2.2.2.2.1 i hi).1; omega)
  have hm1 := bmx_le (b := D.bk) (q := 1) (N := 8) (D.n 4) (fun i hi => by have := (hd.2.2.2.2.2.2.1 i hi).2.1; omega)
  rw [h0, h1, h2, hx.1, hx.2, fx_lt (by omega) (by omega), fx_lt (by omega) (by omega), bmx_iff, bmx_iff]
  unfold laO
  have e : (∀ c, c < 40 → c % 8 < D.n 0 → c / 8 < D.n 1 → D.i (100 + c) = nI 9 ∨ ∃ h, h < D.n 2 ∧ D.i (100 + c) = nI h) ↔ ∀ c, c < 40 → gI m (dr + 1) c < nI (D.n 2) ∨ gI m (dr + 1) c = nI 9 := by
    refine ⟨fun q c hc => ?_, fun q c hc c1 c2 => ?_⟩
    · rw [hw c hc]
      by_cases g : c % 8 < D.n 0 ∧ c / 8 < D.n 1
      · rw [if_pos g]
        rcases q c hc g.1 g.2 with e | ⟨j, j1, j2⟩
        · exact Or.inr e
        · rw [j2, nI_ltI (by omega) (by omega)]; exact Or.inl j1
      · rw [if_neg g, Int32.lt_iff_toInt_lt, nI_toInt (by omega), show (-1 : Int32).toInt = -1 from by decide]
        exact Or.inl (by omega)
    · have := q c hc
      rw [hw c hc, if_pos ⟨c1, c2⟩] at this
      rcases hd.2.2.2.2.2.1 c hc c1 c2 with e | ⟨j, j1, j2⟩
      · exact Or.inl e
      · rw [j2, nI_ltI (by omega) (by omega)] at this
        rcases this with e | e
        · exact Or.inr ⟨j, e, j2⟩
        · exact Or.inl (j2.trans e)
  rw [e]
  exact ⟨fun q => ⟨q.1, fun i hi => (q.2 i hi).1, fun i hi => (q.2 i hi).2⟩, fun q => ⟨q.1, fun i hi => ⟨q.2.1 i hi, q.2.2 i hi⟩⟩⟩
/-- what the drafter writes -/
def FE (dr : Nat) (m m' : Me) : Prop := Fx (fun x => x = 3 ∨ x = 10 ∨ (dr ≤ x ∧ x ≤ dr + 14)) (fun x => x = 11 ∨ x = 12) m m' ∧ ∀ k, k ≠ 6 → k ≠ 7 → gI m' 3 k = gI m 3 k
theorem FE.tr {dr : Nat} {m m' m'' : Me} (h : FE dr m m') (k : FE dr m' m'') : FE dr m m'' := ⟨h.1.tr k.1, fun x a b => (k.2 x a b).trans (h.2 x a b)⟩
theorem FD.fe {dr : Nat} {m m' : Me} (c : FD dr m m') : FE dr m m' := ⟨c.1, c.2.1⟩
theorem SkF.fe {dr : Nat} {m m' : Me} (c : SkF m m') : FE dr m m' := ⟨c.1.mn (fun x h => Or.inr (Or.inl h)) (fun x h => h.elim), fun k _ _ => by rw [c.1.at (by decide)]⟩
theorem FE.w3 {dr : Nat} {m m' : Me} (c : FE dr m m') (h : Wf10 m.1 (gR m) 3) : Wf10 m'.1 (gR m') 3 := c.1.to (F := fun q s => Wf10 q s 3) h
theorem FE.w0 {dr : Nat} {m m' : Me} (c : FE dr m m') (h : Wf0 m.1 (gR m) 10) : Wf0 m'.1 (gR m') 10 := c.1.to (F := fun q s => Wf0 q s 10) h
theorem FE.w7 {dr : Nat} {m m' : Me} (c : FE dr m m') (h : Wf7 m.1 (gR m) dr) : Wf7 m'.1 (gR m') dr := c.1.to (F := fun q s => Wf7 q s dr) h
theorem FE.tk {dr : Nat} {m m' : Me} {B : Nat → Nat} {n z : Nat} (c : FE dr m m') (hdr : 226 ≤ dr) (h : TkX m B n z) : TkX m' B n z := h.keep (c.2 4 (by decide) (by decide)) (c.2 5 (by decide) (by decide)) (c.1.at (by omega)) (c.1.at (by omega)) (by rw [c.1.aj (by decide)])
theorem PzC.of10 {m : Me} {dr : Nat} {r : Nat → Int32} (h : PzC m dr) (hdr : 226 ≤ dr) : PzC (sI m 10 r) dr := by
  obtain ⟨a, b, c, d, e⟩ := h
  have g : ∀ x, x ≠ 10 → gI (sI m 10 r) x = gI m x := fun x q => gI_n q
  refine ⟨?_, ?_, ?_, ?_, e.of (g _ (by omega)) (g _ (by omega)) (g _ (by omega)) rfl⟩
  · rw [g _ (by omega)]; exact a
  · rw [g _ (by omega)]; exact b
  · rw [g _ (by omega)]; exact c
  · rw [g _ (by omega), g _ (by omega)]; exact d
set_option maxRecDepth 100000 in
set_option maxHeartbeats 8000000 in
theorem ev_fillPlan {m : Me} {B : Nat → Nat} {n z dr q : Nat} {Dz : Dr} {wz : Nat × Nat} (hT : TkX m B n z) (hw : Wf10 m.1 (gR m) 3) (hd : Wf0 m.1 (gR m) 10) (hp : Wf7 m.1 (gR m) dr) (hdr : dr = 226 ∨ dr = 241) (hf : FT m B n z (0, 0)) (hV : ∀ j, kG B n z j = 24 → vG B n z j < 65536) (hnm : ∀ j, kG B n z j = 23 → NmO (tL B n j)) (hch : gChk (kG B n z) 401 (fun _ => 0) (0, 0) = (0, q)) (hfin : dF (kG B n z) (vG B n z) (tL B n) = (Dz, wz)) (hpq : pG B n z q = n) : Ev mX0_fillPlan [.ref 10, .ref dr, .ref 3] m (fun o m' => o = none ∧ FT m' B n z (wF Dz q wz) ∧ ((wF Dz q wz).1 = 0 → DrC m' dr Dz 410) ∧ FE dr m m') := by
  refine ⟨plmX0_fillPlan, nle rfl, ?_⟩
  have k73 : ∀ (i : Nat) (m1 : Me), FT m1 B n z wz → (wz.1 = 0 → DrC m1 dr Dz 410 ∧ DrO Dz) → (∃ c, CnW c Dz) → FE dr m m1 → Go mX0_fillPlan (fun o m' => o = none ∧ FT m' B n z (wF Dz q wz) ∧ ((wF Dz q wz).1 = 0 → DrC m' dr Dz 410) ∧ FE dr m m') 73 [some (.ref 10), some (.ref dr), some (.ref 3), some (.int (nI i))] [] m1 0 0 := by
    intro i m1 hf hC hcn fe
    obtain ⟨c, hcn⟩ := hcn
    have hT := fe.tk (by omega) hT
    have hw := fe.w3 hw
    have hd := fe.w0 hd
    have hp := fe.w7 hp
    refine go_aload_n (q := 1) (i := 1) rfl rfl dX0_fillPlan_73 ?_
    refine go_callV okmX7_hasHoldingsOfAllCells lmX0_50 ⟨nle rfl, nle rfl⟩ hp.o ⟨by decide, rfl⟩ (ev_hasAll hp) npmX7_hasHoldingsOfAllCells rfl (nle rfl) ⟨nle rfl, nle rfl⟩ dX0_fillPlan_74 ?_
    rintro _ mz ⟨rfl, hz⟩
    subst mz
    by_cases hall : ∀ c, c < 40 → gI m1 (dr + 1) c < gI m1 dr 2 ∨ gI m1 (dr + 1) c = nI 9
    · skip
      rw [pit_t hall]
      refine go_c1 ?_
      refine gz_eq (by omega) (tgt := 102) dX0_fillPlan_77 (by decide) (fun h77 => by exfalso; omega) (fun h77 => ?_)
      refine go_aload_n (q := 0) (i := 0) rfl rfl dX0_fillPlan_80 ?_
      refine go_getI lf0_23 rfl hd.o dX0_fillPlan_81 ?_
      refine go_aload_n (q := 1) (i := 1) rfl rfl dX0_fillPlan_84 ?_
      refine go_getI lf0_54 rfl hp.o dX0_fillPlan_85 ?_
      refine go_icmp_ge (tgt := 102) dX0_fillPlan_88 (by decide) (fun h88 => ?_) (fun h88 => ?_)
      · skip
        refine go_aload_n (q := 2) (i := 2) rfl rfl dX0_fillPlan_102 ?_
        refine go_bipush (v := nI 6) (by decide) dX0_fillPlan_103 ?_
        refine go_aload_n (q := 2) (i := 2) rfl rfl dX0_fillPlan_105 ?_
        refine go_getI lf0_60 rfl hw.o dX0_fillPlan_106 ?_
        rw [show gI m1 3 5 = nI (pG B n z q) by rw [hpq]; exact hT.2.2.1]
        refine go_callV okmX10_fail lmX0_63 ⟨nle rfl, nle rfl⟩ hw.o ⟨by decide, rfl⟩ (ev_failw (j := q) hw hf (c := 6) (by decide)) npmX10_fail rfl (nle rfl) ⟨nle rfl, nle rfl⟩ dX0_fillPlan_109 ?_
        rintro _ m2 ⟨rfl, f1, c1⟩
        refine go_c0 ?_
        refine go_vret rfl ⟨Nat.zero_le _, Nat.zero_le _⟩ dX0_fillPlan_112 ?_
        refine ⟨rfl, ?_, fun h0 => ?_, fe.tr (c1.fd (dr := dr)).fe⟩
        · by_cases h0 : wz.1 = 0
          · have hla : ¬ laO Dz := fun q0 => (fun g => absurd g.2.1 (Int32.not_lt.mpr h88)) ((la_i (hC h0).1 (hC h0).2 hcn).mp q0)
            rw [show wF Dz q wz = wq True 6 q wz from wq_e ⟨fun _ => True.intro, fun _ => hla⟩]
            exact f1
          · rw [show wF Dz q wz = wz from wq_s h0]
            rw [wq_s h0] at f1
            exact f1
        · have hz : wz.1 = 0 := (wq_z (by decide) h0).2
          have hla : ¬ laO Dz := fun q0 => (fun g => absurd g.2.1 (Int32.not_lt.mpr h88)) ((la_i (hC hz).1 (hC hz).2 hcn).mp q0)
          exact absurd hla (wq_z (by decide) h0).1
      · skip
        refine go_aload_n (q := 0) (i := 0) rfl rfl dX0_fillPlan_91 ?_
        refine go_getI lf0_27 rfl hd.o dX0_fillPlan_92 ?_
        refine go_aload_n (q := 1) (i := 1) rfl rfl dX0_fillPlan_95 ?_
        refine go_getI lf0_57 rfl hp.o dX0_fillPlan_96 ?_
        refine go_icmp_lt (tgt := 112) dX0_fillPlan_99 (by decide) (fun h99 => ?_) (fun h99 => ?_)
        · skip
          refine go_vret rfl ⟨Nat.zero_le _, Nat.zero_le _⟩ dX0_fillPlan_112 ?_
          by_cases h0 : wz.1 = 0
          · have hla := (la_i (hC h0).1 (hC h0).2 hcn).mpr ⟨hall, Int32.not_le.mp h88, h99⟩
            rw [show wF Dz q wz = wz from wq_n (fun g => g hla)]
            exact ⟨rfl, hf, fun h0 => (hC h0).1, fe⟩
          · rw [show wF Dz q wz = wz from wq_s h0]
            exact ⟨rfl, hf, fun z => absurd z h0, fe⟩
        · skip
          refine go_aload_n (q := 2) (i := 2) rfl rfl dX0_fillPlan_102 ?_
          refine go_bipush (v := nI 6) (by decide) dX0_fillPlan_103 ?_
          refine go_aload_n (q := 2) (i := 2) rfl rfl dX0_fillPlan_105 ?_
          refine go_getI lf0_60 rfl hw.o dX0_fillPlan_106 ?_
          rw [show gI m1 3 5 = nI (pG B n z q) by rw [hpq]; exact hT.2.2.1]
          refine go_callV okmX10_fail lmX0_63 ⟨nle rfl, nle rfl⟩ hw.o ⟨by decide, rfl⟩ (ev_failw (j := q) hw hf (c := 6) (by decide)) npmX10_fail rfl (nle rfl) ⟨nle rfl, nle rfl⟩ dX0_fillPlan_109 ?_
          rintro _ m2 ⟨rfl, f1, c1⟩
          refine go_c0 ?_
          refine go_vret rfl ⟨Nat.zero_le _, Nat.zero_le _⟩ dX0_fillPlan_112 ?_
          refine ⟨rfl, ?_, fun h0 => ?_, fe.tr (c1.fd (dr := dr)).fe⟩
          · by_cases h0 : wz.1 = 0
            · have hla : ¬ laO Dz := fun q0 => (fun g => h99 g.2.2) ((la_i (hC h0).1 (hC h0).2 hcn).mp q0)
              rw [show wF Dz q wz = wq True 6 q wz from wq_e ⟨fun _ => True.intro, fun _ => hla⟩]
              exact f1
            · rw [show wF Dz q wz = wz from wq_s h0]
              rw [wq_s h0] at f1
              exact f1
          · have hz : wz.1 = 0 := (wq_z (by decide) h0).2
            have hla : ¬ laO Dz := fun q0 => (fun g => h99 g.2.2) ((la_i (hC hz).1 (hC hz).2 hcn).mp q0)
            exact absurd hla (wq_z (by decide) h0).1
    · skip
      rw [pit_f hall]
      refine go_c1 ?_
      refine gz_eq (by omega) (tgt := 102) dX0_fillPlan_77 (by decide) (fun h77 => ?_) (fun h77 => by exfalso; omega)
      refine go_aload_n (q := 2) (i := 2) rfl rfl dX0_fillPlan_102 ?_
      refine go_bipush (v := nI 6) (by decide) dX0_fillPlan_103 ?_
      refine go_aload_n (q := 2) (i := 2) rfl rfl dX0_fillPlan_105 ?_
      refine go_getI lf0_60 rfl hw.o dX0_fillPlan_106 ?_
      rw [show gI m1 3 5 = nI (pG B n z q) by rw [hpq]; exact hT.2.2.1]
      refine go_callV okmX10_fail lmX0_63 ⟨nle rfl, nle rfl⟩ hw.o ⟨by decide, rfl⟩ (ev_failw (j := q) hw hf (c := 6) (by decide)) npmX10_fail rfl (nle rfl) ⟨nle rfl, nle rfl⟩ dX0_fillPlan_109 ?_
      rintro _ m2 ⟨rfl, f1, c1⟩
      refine go_c0 ?_
      refine go_vret rfl ⟨Nat.zero_le _, Nat.zero_le _⟩ dX0_fillPlan_112 ?_
      refine ⟨rfl, ?_, fun h0 => ?_, fe.tr (c1.fd (dr := dr)).fe⟩
      · by_cases h0 : wz.1 = 0
        · have hla : ¬ laO Dz := fun q0 => (fun g => hall g.1) ((la_i (hC h0).1 (hC h0).2 hcn).mp q0)
          rw [show wF Dz q wz = wq True 6 q wz from wq_e ⟨fun _ => True.intro, fun _ => hla⟩]
          exact f1
        · rw [show wF Dz q wz = wz from wq_s h0]
          rw [wq_s h0] at f1
          exact f1
      · have hz : wz.1 = 0 := (wq_z (by decide) h0).2
        have hla : ¬ laO Dz := fun q0 => (fun g => hall g.1) ((la_i (hC hz).1 (hC hz).2 hcn).mp q0)
        exact absurd hla (wq_z (by decide) h0).1
  have key : ∀ f p (m1 : Me) (i : Nat) (c : Nat → Nat) (D : Dr) (w : Nat × Nat), 401 ≤ f + p → p ≤ 400 → i ≤ p → gChk (kG B n z) f c (0, p) = (0, q) → dA (kG B n z) (vG B n z) (tL B n) f c p D w = (Dz, wz) → gI m1 10 4 = nI p → FT m1 B n z w → CnW c D → (w.1 = 0 → DrC m1 dr D (p + 10) ∧ DrO D ∧ NmD D) → FE dr m m1 → Go mX0_fillPlan (fun o m' => o = none ∧ FT m' B n z (wF Dz q wz) ∧ ((wF Dz q wz).1 = 0 → DrC m' dr Dz 410) ∧ FE dr m m') 21 [some (.ref 10), some (.ref dr), some (.ref 3), some (.int (nI i))] [] m1 0 0 := by
    intro f
    induction f with
    | zero => intro p m1 i c D w h1 h2; omega
    | succ f ih =>
      intro p m1 i c D w h1 h2 hip hch hfin hat hf hcn hC fe
      have hT := fe.tk (by omega) hT
      have hw := fe.w3 hw
      have hd := fe.w0 hd
      have hp := fe.w7 hp
      by_cases h0 : w.1 = 0
      · by_cases hk : kG B n z p = 34
        · rw [dA_e hk] at hfin
          obtain ⟨rfl, rfl⟩ : D = Dz ∧ w = wz := ⟨congrArg Prod.fst hfin, congrArg Prod.snd hfin⟩
          have hC : w.1 = 0 → DrC m1 dr D 410 ∧ DrO D := fun z => ⟨(hC z).1.mn (by omega), (hC z).2.1⟩
          have hcn : ∃ c, CnW c D := ⟨c, hcn⟩
          refine go_iload_n (q := 3) (i := 3) rfl rfl dX0_fillPlan_21 ?_
          refine go_sipush (v := nI 400) (by decide) dX0_fillPlan_22 ?_
          refine gn_ge (by omega) (by omega) (tgt := 73) dX0_fillPlan_25 (by decide) (fun h25 => ?_) (fun h25 => ?_)
          · skip
            exact k73 i m1 hf hC hcn fe
          · skip
            refine go_aload_n (q := 2) (i := 2) rfl rfl dX0_fillPlan_28 ?_
            refine go_getI lf0_33 rfl hw.o dX0_fillPlan_29 ?_
            rw [hf.1]
            refine gz_ne (by omega) (tgt := 73) dX0_fillPlan_32 (by decide) (fun h32 => by exfalso; omega) (fun h32 => ?_)
            refine go_aload_n (q := 2) (i := 2) rfl rfl dX0_fillPlan_35 ?_
            refine go_aload_n (q := 0) (i := 0) rfl rfl dX0_fillPlan_36 ?_
            refine go_getI lf0_30 rfl hd.o dX0_fillPlan_37 ?_
            rw [hat]
            refine go_callV okmX10_kindAt lmX0_38 ⟨nle rfl, nle rfl⟩ hw.o ⟨by decide, rfl⟩ (ev_tk hT hw (by omega)) npmX10_kindAt rfl (nle rfl) ⟨nle rfl, nle rfl⟩ dX0_fillPlan_40 ?_
            rintro _ mz ⟨rfl, hz⟩
            subst mz
            refine go_c1 ?_
            refine go_bipush (v := nI 34) (by decide) dX0_fillPlan_43 ?_
            refine gn_eq (by omega) (by omega) (tgt := 73) dX0_fillPlan_45 (by decide) (fun h45 => ?_) (fun h45 => by exfalso; omega)
            exact k73 i m1 hf hC hcn fe
        · obtain ⟨a, r, e1, e2, e3⟩ := chk_step hch hk
          obtain ⟨b1, b2, b3, b4⟩ := te_sk e2 rfl a
          rw [dA_t hk, e1] at hfin
          have hp4 : p < 400 := by omega
          have hk35 : kG B n z p ≤ 35 := kG_le
          refine go_iload_n (q := 3) (i := 3) rfl rfl dX0_fillPlan_21 ?_
          refine go_sipush (v := nI 400) (by decide) dX0_fillPlan_22 ?_
          refine gn_ge (by omega) (by omega) (tgt := 73) dX0_fillPlan_25 (by decide) (fun h25 => by exfalso; omega) (fun h25 => ?_)
          refine go_aload_n (q := 2) (i := 2) rfl rfl dX0_fillPlan_28 ?_
          refine go_getI lf0_33 rfl hw.o dX0_fillPlan_29 ?_
          rw [hf.1]
          refine gz_ne (by omega) (tgt := 73) dX0_fillPlan_32 (by decide) (fun h32 => by exfalso; omega) (fun h32 => ?_)
          refine go_aload_n (q := 2) (i := 2) rfl rfl dX0_fillPlan_35 ?_
          refine go_aload_n (q := 0) (i := 0) rfl rfl dX0_fillPlan_36 ?_
          refine go_getI lf0_30 rfl hd.o dX0_fillPlan_37 ?_
          rw [hat]
          refine go_callV okmX10_kindAt lmX0_38 ⟨nle rfl, nle rfl⟩ hw.o ⟨by decide, rfl⟩ (ev_tk hT hw (by omega)) npmX10_kindAt rfl (nle rfl) ⟨nle rfl, nle rfl⟩ dX0_fillPlan_40 ?_
          rintro _ mz ⟨rfl, hz⟩
          subst mz
          refine go_c1 ?_
          refine go_bipush (v := nI 34) (by decide) dX0_fillPlan_43 ?_
          refine gn_eq (by omega) (by omega) (tgt := 73) dX0_fillPlan_45 (by decide) (fun h45 => by exfalso; omega) (fun h45 => ?_)
          refine go_aload_n (q := 0) (i := 0) rfl rfl dX0_fillPlan_48 ?_
          refine go_aload_n (q := 1) (i := 1) rfl rfl dX0_fillPlan_49 ?_
          refine go_aload_n (q := 2) (i := 2) rfl rfl dX0_fillPlan_50 ?_
          refine go_aload_n (q := 2) (i := 2) rfl rfl dX0_fillPlan_51 ?_
          refine go_aload_n (q := 0) (i := 0) rfl rfl dX0_fillPlan_52 ?_
          refine go_getI lf0_30 rfl hd.o dX0_fillPlan_53 ?_
          rw [hat]
          refine go_callV okmX10_kindAt lmX0_38 ⟨nle rfl, nle rfl⟩ hw.o ⟨by decide, rfl⟩ (ev_tk hT hw (by omega)) npmX10_kindAt rfl (nle rfl) ⟨nle rfl, nle rfl⟩ dX0_fillPlan_56 ?_
          rintro _ mz ⟨rfl, hz⟩
          subst mz
          refine go_c1 ?_
          refine go_callV okmX0_fillTell lmX0_42 ⟨nle rfl, nle rfl⟩ hd.o ⟨by decide, rfl⟩ (ev_fillTell (r := r) hT hw hd hp hdr hf (hC h0).1 hat (by omega) hV hnm e2 hcn (hC h0).2.1) npmX0_fillTell rfl (nle rfl) ⟨nle rfl, nle rfl⟩ dX0_fillPlan_59 ?_
          rintro _ m2 ⟨rfl, a1, a2, a3⟩
          have hT := FE.tk a3.fe (by omega) hT
          have hw := a3.w3 hw
          have hd := a3.w0 hd
          have hp := a3.w7 hp
          have hat : gI m2 10 4 = nI p := a3.2.2.trans hat
          refine go_c0 ?_
          refine go_aload_n (q := 0) (i := 0) rfl rfl dX0_fillPlan_62 ?_
          refine go_aload_n (q := 2) (i := 2) rfl rfl dX0_fillPlan_63 ?_
          refine go_callV okmX0_skipTell lmX0_46 ⟨nle rfl, nle rfl⟩ hd.o ⟨by decide, rfl⟩ (ev_skipTell hT hw hd hat b1 b2 b3 b4) npmX0_skipTell rfl (nle rfl) ⟨nle rfl, nle rfl⟩ dX0_fillPlan_64 ?_
          rintro _ m3 ⟨rfl, g1, g2⟩
          refine go_c0 ?_
          refine gn_inc (i := 3) (a := i) (q := 1) rfl dX0_fillPlan_67 (nle rfl) rfl ?_
          refine go_goto (tgt := 21) dX0_fillPlan_70 (by decide) ?_
          refine ih r m3 (i + 1) _ _ _ (by omega) b2 (by omega) e3 hfin g1 (FT.of a1 (g2.1.at (by decide))) (te_cn e2 hnm hcn) (fun z => ?_) (fe.tr (a3.fe.tr g2.fe))
          obtain ⟨x1, x2⟩ := te_ok e2 hnm hV z hcn.2 (hC h0).2.1 (hC h0).2.2
          exact ⟨(a2 z).sk (by omega) g2, x1, x2⟩
      · have hw2 := dA_s (K := kG B n z) (V := vG B n z) (N := tL B n) (f + 1) c p D w h0
        rw [hfin] at hw2
        have hw2 : wz = w := hw2
        subst hw2
        have hC : wz.1 = 0 → DrC m1 dr Dz 410 ∧ DrO Dz := fun z => absurd z h0
        have hcn : ∃ c, CnW c Dz := by
          have := (dA_ok (V := vG B n z) hnm hV (f + 1) p c D wz h1 h2 hch hcn (fun z => absurd z h0)).1
          rw [hfin] at this
          exact this
        have hw9 := hf.2.2.2
        refine go_iload_n (q := 3) (i := 3) rfl rfl dX0_fillPlan_21 ?_
        refine go_sipush (v := nI 400) (by decide) dX0_fillPlan_22 ?_
        refine gn_ge (by omega) (by omega) (tgt := 73) dX0_fillPlan_25 (by decide) (fun h25 => ?_) (fun h25 => ?_)
        · skip
          exact k73 i m1 hf hC hcn fe
        · skip
          refine go_aload_n (q := 2) (i := 2) rfl rfl dX0_fillPlan_28 ?_
          refine go_getI lf0_33 rfl hw.o dX0_fillPlan_29 ?_
          rw [hf.1]
          refine gz_ne (by omega) (tgt := 73) dX0_fillPlan_32 (by decide) (fun h32 => ?_) (fun h32 => by exfalso; omega)
          exact k73 i m1 hf hC hcn fe
  refine go_aload_n (q := 1) (i := 1) rfl rfl dX0_fillPlan_0 ?_
  refine go_callV okmX7_clear lmX0_18 ⟨nle rfl, nle rfl⟩ hp.o ⟨by decide, rfl⟩ (ev_pclear hp hdr) npmX7_clear rfl (nle rfl) ⟨nle rfl, nle rfl⟩ dX0_fillPlan_1 ?_
  rintro _ m1 ⟨rfl, hz, fp⟩
  have fe : FE dr m m1 := ⟨fp.mn (fun x h => Or.inr (Or.inr h)) (fun x h => h.elim), fun k _ _ => by rw [fp.at (by omega)]⟩
  have hd := fe.w0 hd
  have g3 : gI m1 3 = gI m 3 := fp.at (by omega)
  refine go_c0 ?_
  refine go_aload_n (q := 0) (i := 0) rfl rfl dX0_fillPlan_4 ?_
  refine go_iconst (v := -1) (by decide) dX0_fillPlan_5 ?_
  refine go_putI lf0_23 rfl (Or.inl rfl) hd.o dX0_fillPlan_6 ?_
  generalize hmE : sI m1 10 (upd (gI m1 10) 2 (-1)) = m2
  have h2 : gI m2 10 2 = -1 := by rw [← hmE, gI_s, upd_same]
  have fe : FE dr m m2 := by rw [← hmE]; exact ⟨Fx.I fe.1 (Or.inr (Or.inl rfl)), fun k a b => by rw [gI_n (by decide)]; exact fe.2 k a b⟩
  have hz : PzC m2 dr := by rw [← hmE]; exact hz.of10 (by omega)
  have hd : Wf0 m2.1 (gR m2) 10 := by rw [← hmE]; exact hd
  have g3 : gI m2 3 = gI m 3 := by rw [← hmE, gI_n (by decide)]; exact g3
  clear hmE
  refine go_aload_n (q := 0) (i := 0) rfl rfl dX0_fillPlan_9 ?_
  refine go_iconst (v := -1) (by decide) dX0_fillPlan_10 ?_
  refine go_putI lf0_27 rfl (Or.inl rfl) hd.o dX0_fillPlan_11 ?_
  generalize hmE : sI m2 10 (upd (gI m2 10) 3 (-1)) = m3
  have h3 : gI m3 10 3 = -1 := by rw [← hmE, gI_s, upd_same]
  have h2 : gI m3 10 2 = -1 := by rw [← hmE, gI_s, upd_ne (by decide)]; exact h2
  have fe : FE dr m m3 := by rw [← hmE]; exact ⟨Fx.I fe.1 (Or.inr (Or.inl rfl)), fun k a b => by rw [gI_n (by decide)]; exact fe.2 k a b⟩
  have hz : PzC m3 dr := by rw [← hmE]; exact hz.of10 (by omega)
  have hd : Wf0 m3.1 (gR m3) 10 := by rw [← hmE]; exact hd
  have g3 : gI m3 3 = gI m 3 := by rw [← hmE, gI_n (by decide)]; exact g3
  clear hmE
  refine go_aload_n (q := 0) (i := 0) rfl rfl dX0_fillPlan_14 ?_
  refine go_iconst (v := nI 0) (by decide) dX0_fillPlan_15 ?_
  refine go_putI lf0_30 rfl (Or.inl rfl) hd.o dX0_fillPlan_16 ?_
  generalize hmE : sI m3 10 (upd (gI m3 10) 4 (nI 0)) = m4
  have h3 : gI m4 10 3 = -1 := by rw [← hmE, gI_s, upd_ne (by decide)]; exact h3
  have h2 : gI m4 10 2 = -1 := by rw [← hmE, gI_s, upd_ne (by decide)]; exact h2
  have h4 : gI m4 10 4 = nI 0 := by rw [← hmE, gI_s, upd_same]
  have fe : FE dr m m4 := by rw [← hmE]; exact ⟨Fx.I fe.1 (Or.inr (Or.inl rfl)), fun k a b => by rw [gI_n (by decide)]; exact fe.2 k a b⟩
  have hz : PzC m4 dr := by rw [← hmE]; exact hz.of10 (by omega)
  have g3 : gI m4 3 = gI m 3 := by rw [← hmE, gI_n (by decide)]; exact g3
  clear hmE
  refine go_iconst (v := nI 0) (by decide) dX0_fillPlan_19 ?_
  refine go_istore_n (q := 3) (i := 3) rfl dX0_fillPlan_20 (nle rfl) (nle rfl) ?_
  refine key 401 0 m4 0 (fun _ => 0) drZ (0, 0) (by omega) (by omega) (Nat.le_refl _) hch hfin h4 ?_ ⟨Nat.zero_le _, drZ_ok.2⟩ (fun _ => ⟨(hz.dr h2 h3).mn (by omega), drZ_ok.1, fun h g h1 => absurd h1 (Nat.not_lt_zero h)⟩) fe
  exact FT.of hf g3
