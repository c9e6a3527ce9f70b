/-- the first x letters are letters of a ROW, and it is as long as the first one -/
def roP (D : Dr) (l : List Nat) (x : Nat) : Prop := l.length = rwW D l ∧ ∀ j, 0 ≤ j → j < x → l.getD j 0 ≤ 4 ∨ l.getD j 0 = 15
theorem roP_e {D : Dr} {l : List Nat} : roP D l l.length ↔ rwO D l := by
  unfold roP rwO
  rw [all_g (p := fun c => c ≤ 4 ∨ c = 15)]
theorem roP_s {D : Dr} {l : List Nat} {x : Nat} : roP D l (x + 1) ↔ roP D l x ∧ (l.getD x 0 ≤ 4 ∨ l.getD x 0 = 15) := by
  unfold roP
  refine ⟨fun q => ⟨⟨q.1, fun j h1 h2 => q.2 j h1 (by omega)⟩, q.2 x (Nat.zero_le _) (by omega)⟩, fun q => ⟨q.1.1, fun j h1 h2 => ?_⟩⟩
  by_cases e : j = x
  · rw [e]; exact q.2
  · exact q.1.2 j h1 (by omega)
/-- a row as the reference fills it: x letters so far -/
def RwI (m m2 : Me) (sd : Nat) (D : Dr) (l : List Nat) (x : Nat) : Prop := (∀ y, y ≠ 274 → y ≠ 284 → y ≠ 285 → y ≠ 286 → gI m2 y = gI m y) ∧ (∀ y, gJ m2 y = gJ m y) ∧ (∀ k, k ≠ 11 → k ≠ 13 → k ≠ 14 → k ≠ 15 → k ≠ 16 → gI m2 274 k = gI m 274 k) ∧ FV sd m m2 ∧ gI m2 285 = gI m 285 ∧ gI m2 284 sd = nI (rwW D l) ∧ ∀ j, gI m2 286 j = if 40 * sd + 8 * D.n 1 ≤ j ∧ j < 40 * sd + 8 * D.n 1 + x then rwC (l.getD (j - (40 * sd + 8 * D.n 1)) 0) else gI m 286 j
theorem RwI.fw {m m2 m3 : Me} {sd x : Nat} {D : Dr} {l : List Nat} (h : RwI m m2 sd D l x) (c : FW m2 m3) : RwI m m3 sd D l x := ⟨fun y a b d e => (c.1.at a).trans (h.1 y a b d e), fun y => (c.1.aj (fun a => a)).trans (h.2.1 y), fun k a b d e f => (c.2 k a b d e f).trans (h.2.2.1 k a b d e f), h.2.2.2.1.tr c.fv, (c.1.at (by decide)).trans h.2.2.2.2.1, by rw [c.1.at (by decide)]; exact h.2.2.2.2.2.1, fun j => by rw [c.1.at (by decide)]; exact h.2.2.2.2.2.2 j⟩
theorem RwI.nx {m m2 : Me} {sd x : Nat} {D : Dr} {l : List Nat} {v : Int32} (h : RwI m m2 sd D l x) (h1 : D.n 1 < 5) (hx : x < 8) (hv : v = rwC (l.getD x 0)) : RwI m (sI m2 286 (upd (gI m2 286) (40 * sd + 8 * D.n 1 + x) v)) sd D l (x + 1) := ⟨fun y a b d e => by rw [gI_n e]; exact h.1 y a b d e, fun y => h.2.1 y, fun k a b d e f => by rw [gI_n (by decide)]; exact h.2.2.1 k a b d e f, h.2.2.2.1.up (by decide) (SD.of (b := 40) (i := 8 * D.n 1 + x) rfl (by omega) (by omega)), by rw [gI_n (by decide)]; exact h.2.2.2.2.1, by rw [gI_n (by decide)]; exact h.2.2.2.2.2.1, fun j => by
  rw [gI_s, upd_c, hv]
  by_cases q : j = 40 * sd + 8 * D.n 1 + x
  · rw [if_pos q, if_pos (by omega)]
    congr 2
    omega
  · rw [if_neg q, h.2.2.2.2.2.2 j]
    by_cases g : 40 * sd + 8 * D.n 1 ≤ j ∧ j < 40 * sd + 8 * D.n 1 + x
    · rw [if_pos g, if_pos (by omega)]
    · rw [if_neg g, if_neg (by omega)]⟩
set_option maxRecDepth 100000 in
set_option maxHeartbeats 8000000 in
theorem ex_tellRow {m : Me} {B : Nat → Nat} {n z sd p : Nat} {w : Nat × Nat} {D : Dr} {c : Nat → Nat} (hx : Wf12 m.1 (gR m)) (hT : TkR m B n z) (h : GM m B n z (0, p)) (hq : WQ m B n z (0, p) w) (hpu : PuG B n z) (hn : n ≤ 2000) (hV : ∀ j, kG B n z j = 24 → vG B n z j < 65536) (hnm : ∀ j, kG B n z j = 23 → NmO (tL B n j)) (hsd : gI m 274 19 = nI sd) (hs2 : sd < 2) (hU : RdU m sd D) (hC : w.1 = 0 → RdC m sd D ∧ DrO D ∧ NmD D) (hcn : CnW c D) (hw0 : w.1 ≠ 0 → w.2 < p) (h5 : D.n 1 < 5) : Ev mX12_tellRow [.ref 274] m (fun o m' => o = none ∧ GM m' B n z (gTk (kG B n z) 25 (gTk (kG B n z) 23 (0, p))) ∧ WQ m' B n z (gTk (kG B n z) 25 (gTk (kG B n z) 23 (0, p))) (wq (¬ rwO D (tL B n p)) 6 p w) ∧ FV sd m m' ∧ ((gTk (kG B n z) 25 (gTk (kG B n z) 23 (0, p))).1 = 0 → RdU m' sd (rwD D (tL B n p)) ∧ ((wq (¬ rwO D (tL B n p)) 6 p w).1 = 0 → RdC m' sd (rwD D (tL B n p))))) := by
  refine ⟨plmX12_tellRow, nle rfl, ?_⟩
  obtain ⟨x0, x1, x2, x3, x4, y0, y1, y2, y3⟩ := id hcn
  have hz := hT.2.1
  have hpz : p < z := h.2.2.2.2.1
  have hNm : w.1 = 0 → NmM m D ∧ NoD D := fun q => ⟨(hC q).1.2.2, (hC q).2.1.2.2.2.2.2.2.2.2.2.1, (hC q).2.1.2.2.2.2.2.2.2.2.2.2⟩
  have hMd : w.1 = 0 → NmD D := fun q => (hC q).2.2
  have hk1 : (gTk (kG B n z) 23 (0, p)).1 = 0 → kG B n z p = 23 := fun q => (gTk_z q).2.1
  have k72 : (gTk (kG B n z) 23 (0, p)).1 = 0 → ∀ x, x ≤ (tL B n p).length → ∀ (x5 : Option Value) (m2 : Me), RwI m m2 sd D (tL B n p) x → GM m2 B n z (gTk (kG B n z) 23 (0, p)) → WQ m2 B n z (gTk (kG B n z) 23 (0, p)) w → Go mX12_tellRow (fun o m' => o = none ∧ GM m' B n z (gTk (kG B n z) 25 (gTk (kG B n z) 23 (0, p))) ∧ WQ m' B n z (gTk (kG B n z) 25 (gTk (kG B n z) 23 (0, p))) (wq (¬ rwO D (tL B n p)) 6 p w) ∧ FV sd m m' ∧ ((gTk (kG B n z) 25 (gTk (kG B n z) 23 (0, p))).1 = 0 → RdU m' sd (rwD D (tL B n p)) ∧ ((wq (¬ rwO D (tL B n p)) 6 p w).1 = 0 → RdC m' sd (rwD D (tL B n p))))) 72 [some (.ref 274), some (.int (nI p)), some (.int (nI (tL B n p).length)), some (.int (pit (roP D (tL B n p) x) (nI 1) (nI 0))), some (.int (nI x)), x5] [] m2 0 0 := by
    intro hz1
    have hk23 := hk1 hz1
    have hl := hnm p hk23
    have hl8 := hl.2.2
    have hnk : gJ m 280 p = lN (nkM (tL B n p)) := (hT.2.2.2 p hpz).2.2.2 (by unfold kG at hk23; rw [if_pos hpz] at hk23; omega)
    refine loop_up (tL B n p).length ?_ ?_
    · intro x5 m2 hI f1 f2
      have hx : Wf12 m2.1 (gR m2) := hI.2.2.2.1.wf hx
      have hT2 : TkR m2 B n z := hI.2.2.2.1.tk hT
      have h9 := f1.2.2.2.1
      by_cases ro : roP D (tL B n p) (tL B n p).length
      · skip
        refine go_iload (i := 4) rfl dX12_tellRow_72 ?_
        refine go_iload_n (q := 2) (i := 2) rfl rfl dX12_tellRow_74 ?_
        refine gn_ge (by omega) (by omega) (tgt := 156) dX12_tellRow_75 (by decide) (fun h75 => ?_) (fun h75 => by exfalso; omega)
        refine go_iload_n (q := 3) (i := 3) rfl rfl dX12_tellRow_156 ?_
        refine go_if_ne (tgt := 167) dX12_tellRow_157 (by decide) (fun h157 => ?_) (fun h157 => by exfalso; rw [pit_t ro] at h157; exact absurd h157 (by decide))
        refine go_aload_n (q := 0) (i := 0) rfl rfl dX12_tellRow_167 ?_
        refine go_iconst (v := nI 4) (by decide) dX12_tellRow_168 ?_
        refine go_callV okmX12_must lmX12_296 ⟨nle rfl, nle rfl⟩ hx.o ⟨by decide, rfl⟩ (ex_must hx hT2 f1 (k := 25) (by decide)) npmX12_must rfl (nle rfl) ⟨nle rfl, nle rfl⟩ dX12_tellRow_169 ?_
        rintro _ m3 ⟨rfl, g1, c3⟩
        have hI3 := hI.fw c3.fw
        have g9 := g1.2.2.2.1
        have hx := c3.wf hx
        refine go_c0 ?_
        refine go_aload_n (q := 0) (i := 0) rfl rfl dX12_tellRow_172 ?_
        refine go_getI lf12_230 rfl hx.o dX12_tellRow_173 ?_
        rw [g1.1]
        refine gz_ne (by omega) (tgt := 192) dX12_tellRow_176 (by decide) (fun h176 => ?_) (fun h176 => ?_)
        · skip
          refine go_vret rfl ⟨Nat.zero_le _, Nat.zero_le _⟩ dX12_tellRow_192 ?_
          have hqf : WQ m2 B n z (gTk (kG B n z) 23 (0, p)) (wq (¬ rwO D (tL B n p)) 6 p w) := f2.e (fun _ => wq_n (fun q => q (roP_e.mp ro)))
          have hne : (gTk (kG B n z) 25 (gTk (kG B n z) 23 (0, p))).1 ≠ 0 := by omega
          exact ⟨rfl, g1, fun q => absurd q hne, hI3.2.2.2.1, fun q => absurd q hne⟩
        · skip
          refine go_aload_n (q := 0) (i := 0) rfl rfl dX12_tellRow_179 ?_
          refine go_getR lf12_49 rfl hx.o hx.r24 dX12_tellRow_180 ?_
          refine go_aload_n (q := 0) (i := 0) rfl rfl dX12_tellRow_183 ?_
          refine go_getI lf12_263 rfl hx.o dX12_tellRow_184 ?_
          rw [show gI _ 274 19 = nI sd from (hI3.2.2.1 19 (by decide) (by decide) (by decide) (by decide) (by decide)).trans hsd]
          refine go_dup2 rfl rfl dX12_tellRow_187 ?_
          refine go_iald (j := sd) hx.i24 (by omega) (by first | decide | omega) rfl dX12_tellRow_188 ?_
          rw [hI3.2.2.2.2.1, hU.1.2.1]
          refine go_iconst (v := nI 1) (by decide) dX12_tellRow_189 ?_
          refine gn_add dX12_tellRow_190 ?_
          refine go_iast (j := sd) hx.i24 (by omega) (by first | decide | omega) rfl dX12_tellRow_191 ?_
          refine go_vret rfl ⟨Nat.zero_le _, Nat.zero_le _⟩ dX12_tellRow_192 ?_
          have hqf : WQ m2 B n z (gTk (kG B n z) 23 (0, p)) (wq (¬ rwO D (tL B n p)) 6 p w) := f2.e (fun _ => wq_n (fun q => q (roP_e.mp ro)))
          have RR := Rd.ro (m' := sI m3 285 (upd (gI m3 285) sd (nI (D.n 1 + 1)))) (l := (tL B n p)) hU ⟨by omega, by omega⟩ (by omega) hl.2.2 (fun x a1 a2 a3 a4 => by rw [gI_n a3]; exact hI3.1 x a1 a2 a3 a4) (by rw [gI_s, hI3.2.2.2.2.1]) (by rw [gI_n (by decide)]; exact hI3.2.2.2.2.2.1) (fun j => by rw [gI_n (by decide)]; exact hI3.2.2.2.2.2.2 j) (by rw [gI_n (by decide)]; exact hI3.2.2.1 20 (by decide) (by decide) (by decide) (by decide) (by decide)) (by rw [gJ_I]; exact hI3.2.1 282)
          exact ⟨rfl, g1.st (by decide), WQ.st (hqf.fq c3 gTk_s) (by decide), hI3.2.2.2.1.up (by decide) (SD.at rfl), fun _ => ⟨RR.1, fun z0 => RR.2 (Classical.not_not.mp (wq_z (by decide) z0).1) (hC (wq_z (by decide) z0).2).2.1.2.1 (hC (wq_z (by decide) z0).2).1⟩⟩
      · skip
        refine go_iload (i := 4) rfl dX12_tellRow_72 ?_
        refine go_iload_n (q := 2) (i := 2) rfl rfl dX12_tellRow_74 ?_
        refine gn_ge (by omega) (by omega) (tgt := 156) dX12_tellRow_75 (by decide) (fun h75 => ?_) (fun h75 => by exfalso; omega)
        refine go_iload_n (q := 3) (i := 3) rfl rfl dX12_tellRow_156 ?_
        refine go_if_ne (tgt := 167) dX12_tellRow_157 (by decide) (fun h157 => by exfalso; exact h157 (by rw [pit_f ro]; decide)) (fun h157 => ?_)
        refine go_aload_n (q := 0) (i := 0) rfl rfl dX12_tellRow_160 ?_
        refine go_bipush (v := nI 6) (by decide) dX12_tellRow_161 ?_
        refine go_iload_n (q := 1) (i := 1) rfl rfl dX12_tellRow_163 ?_
        refine go_callV okmX12_wrong lmX12_282 ⟨nle rfl, nle rfl⟩ hx.o ⟨by decide, rfl⟩ (ex_wrong hx hT2 f1 f2 hpu hn (c := 6) (by decide) (j := p) hpz (fun _ => Wo.lt hw0)) npmX12_wrong rfl (nle rfl) ⟨nle rfl, nle rfl⟩ dX12_tellRow_164 ?_
        rintro _ m4 ⟨rfl, f1, f2, c4⟩
        have hI := hI.fw c4
        have hx := c4.wf hx
        have hT2 := c4.tk hT2
        refine go_c0 ?_
        refine go_aload_n (q := 0) (i := 0) rfl rfl dX12_tellRow_167 ?_
        refine go_iconst (v := nI 4) (by decide) dX12_tellRow_168 ?_
        refine go_callV okmX12_must lmX12_296 ⟨nle rfl, nle rfl⟩ hx.o ⟨by decide, rfl⟩ (ex_must hx hT2 f1 (k := 25) (by decide)) npmX12_must rfl (nle rfl) ⟨nle rfl, nle rfl⟩ dX12_tellRow_169 ?_
        rintro _ m3 ⟨rfl, g1, c3⟩
        have hI3 := hI.fw c3.fw
        have g9 := g1.2.2.2.1
        have hx := c3.wf hx
        refine go_c0 ?_
        refine go_aload_n (q := 0) (i := 0) rfl rfl dX12_tellRow_172 ?_
        refine go_getI lf12_230 rfl hx.o dX12_tellRow_173 ?_
        rw [g1.1]
        refine gz_ne (by omega) (tgt := 192) dX12_tellRow_176 (by decide) (fun h176 => ?_) (fun h176 => ?_)
        · skip
          refine go_vret rfl ⟨Nat.zero_le _, Nat.zero_le _⟩ dX12_tellRow_192 ?_
          have hqf : WQ m4 B n z (gTk (kG B n z) 23 (0, p)) (wq (¬ rwO D (tL B n p)) 6 p w) := f2.e (fun _ => wq_e ⟨fun _ => True.intro, fun _ q => ro (roP_e.mpr q)⟩)
          have hne : (gTk (kG B n z) 25 (gTk (kG B n z) 23 (0, p))).1 ≠ 0 := by omega
          exact ⟨rfl, g1, fun q => absurd q hne, hI3.2.2.2.1, fun q => absurd q hne⟩
        · skip
          refine go_aload_n (q := 0) (i := 0) rfl rfl dX12_tellRow_179 ?_
          refine go_getR lf12_49 rfl hx.o hx.r24 dX12_tellRow_180 ?_
          refine go_aload_n (q := 0) (i := 0) rfl rfl dX12_tellRow_183 ?_
          refine go_getI lf12_263 rfl hx.o dX12_tellRow_184 ?_
          rw [show gI _ 274 19 = nI sd from (hI3.2.2.1 19 (by decide) (by decide) (by decide) (by decide) (by decide)).trans hsd]
          refine go_dup2 rfl rfl dX12_tellRow_187 ?_
          refine go_iald (j := sd) hx.i24 (by omega) (by first | decide | omega) rfl dX12_tellRow_188 ?_
          rw [hI3.2.2.2.2.1, hU.1.2.1]
          refine go_iconst (v := nI 1) (by decide) dX12_tellRow_189 ?_
          refine gn_add dX12_tellRow_190 ?_
          refine go_iast (j := sd) hx.i24 (by omega) (by first | decide | omega) rfl dX12_tellRow_191 ?_
          refine go_vret rfl ⟨Nat.zero_le _, Nat.zero_le _⟩ dX12_tellRow_192 ?_
          have hqf : WQ m4 B n z (gTk (kG B n z) 23 (0, p)) (wq (¬ rwO D (tL B n p)) 6 p w) := f2.e (fun _ => wq_e ⟨fun _ => True.intro, fun _ q => ro (roP_e.mpr q)⟩)
          have RR := Rd.ro (m' := sI m3 285 (upd (gI m3 285) sd (nI (D.n 1 + 1)))) (l := (tL B n p)) hU ⟨by omega, by omega⟩ (by omega) hl.2.2 (fun x a1 a2 a3 a4 => by rw [gI_n a3]; exact hI3.1 x a1 a2 a3 a4) (by rw [gI_s, hI3.2.2.2.2.1]) (by rw [gI_n (by decide)]; exact hI3.2.2.2.2.2.1) (fun j => by rw [gI_n (by decide)]; exact hI3.2.2.2.2.2.2 j) (by rw [gI_n (by decide)]; exact hI3.2.2.1 20 (by decide) (by decide) (by decide) (by decide) (by decide)) (by rw [gJ_I]; exact hI3.2.1 282)
          exact ⟨rfl, g1.st (by decide), WQ.st (hqf.fq c3 gTk_s) (by decide), hI3.2.2.2.1.up (by decide) (SD.at rfl), fun _ => ⟨RR.1, fun z0 => RR.2 (Classical.not_not.mp (wq_z (by decide) z0).1) (hC (wq_z (by decide) z0).2).2.1.2.1 (hC (wq_z (by decide) z0).2).1⟩⟩
    · intro x hxl ih x5 m2 hI f1 f2
      have hx : Wf12 m2.1 (gR m2) := hI.2.2.2.1.wf hx
      have hT2 : TkR m2 B n z := hI.2.2.2.1.tk hT
      have h9 := f1.2.2.2.1
      have hod := ltO_d hl.1 (x := x) hxl
      refine go_iload (i := 4) rfl dX12_tellRow_72 ?_
      refine go_iload_n (q := 2) (i := 2) rfl rfl dX12_tellRow_74 ?_
      refine gn_ge (by omega) (by omega) (tgt := 156) dX12_tellRow_75 (by decide) (fun h75 => by exfalso; omega) (fun h75 => ?_)
      refine go_aload_n (q := 0) (i := 0) rfl rfl dX12_tellRow_78 ?_
      refine go_getR lf12_30 rfl hx.o hx.r8 dX12_tellRow_79 ?_
      refine go_iload_n (q := 1) (i := 1) rfl rfl dX12_tellRow_82 ?_
      refine go_lald (j := p) hx.i8 (by omega) (by first | decide | omega) rfl dX12_tellRow_83 ?_
      rw [hI.2.1, hnk]
      refine go_iload (i := 4) rfl dX12_tellRow_84 ?_
      refine go_callS okmX12_letterIn lmX12_324 ⟨nle rfl, nle rfl⟩ (ex_letterIn ⟨hl.1, hl.2.2⟩ hxl) npmX12_letterIn rfl (nle rfl) ⟨nle rfl, nle rfl⟩ dX12_tellRow_86 ?_
      rintro _ mz ⟨rfl, hz⟩
      subst mz
      refine go_c1 ?_
      refine go_istore (i := 5) dX12_tellRow_89 (nle rfl) (nle rfl) ?_
      refine go_iload (i := 5) rfl dX12_tellRow_91 ?_
      refine go_iconst (v := nI 4) (by decide) dX12_tellRow_93 ?_
      refine gn_le (by omega) (by omega) (tgt := 106) dX12_tellRow_94 (by decide) (fun h94 => ?_) (fun h94 => ?_)
      · skip
        refine go_aload_n (q := 0) (i := 0) rfl rfl dX12_tellRow_106 ?_
        refine go_getR lf12_52 rfl hx.o hx.r25 dX12_tellRow_107 ?_
        refine go_bipush (v := nI 40) (by decide) dX12_tellRow_110 ?_
        refine go_aload_n (q := 0) (i := 0) rfl rfl dX12_tellRow_112 ?_
        refine go_getI lf12_263 rfl hx.o dX12_tellRow_113 ?_
        rw [show gI _ 274 19 = nI sd from (hI.2.2.1 19 (by decide) (by decide) (by decide) (by decide) (by decide)).trans hsd]
        refine gn_mul dX12_tellRow_116 ?_
        refine go_bipush (v := nI 8) (by decide) dX12_tellRow_117 ?_
        refine go_aload_n (q := 0) (i := 0) rfl rfl dX12_tellRow_119 ?_
        refine go_getR lf12_49 rfl hx.o hx.r24 dX12_tellRow_120 ?_
        refine go_aload_n (q := 0) (i := 0) rfl rfl dX12_tellRow_123 ?_
        refine go_getI lf12_263 rfl hx.o dX12_tellRow_124 ?_
        rw [show gI _ 274 19 = nI sd from (hI.2.2.1 19 (by decide) (by decide) (by decide) (by decide) (by decide)).trans hsd]
        refine go_iald (j := sd) hx.i24 (by omega) (by first | decide | omega) rfl dX12_tellRow_127 ?_
        rw [hI.2.2.2.2.1, hU.1.2.1]
        refine gn_mul dX12_tellRow_128 ?_
        refine gn_add dX12_tellRow_129 ?_
        refine go_iload (i := 4) rfl dX12_tellRow_130 ?_
        refine gn_add dX12_tellRow_132 ?_
        refine go_iload (i := 5) rfl dX12_tellRow_133 ?_
        refine go_bipush (v := nI 15) (by decide) dX12_tellRow_135 ?_
        refine gn_ne (by omega) (by omega) (tgt := 145) dX12_tellRow_137 (by decide) (fun h137 => ?_) (fun h137 => ?_)
        · skip
          refine go_iload (i := 5) rfl dX12_tellRow_145 ?_
          refine go_iconst (v := nI 1) (by decide) dX12_tellRow_147 ?_
          refine gn_sub (by omega) dX12_tellRow_148 ?_
          refine go_iast (j := (((40 * sd) + (8 * (D.n 1))) + x)) hx.i25 (by omega) (by first | decide | omega) rfl dX12_tellRow_149 ?_
          refine gn_inc (i := 4) (a := x) (q := 1) rfl dX12_tellRow_150 (nle rfl) rfl ?_
          refine go_goto (tgt := 72) dX12_tellRow_153 (by decide) ?_
          have k0 := ih (some (.int (nI ((tL B n p).getD x 0)))) _ (hI.nx (by omega) (by omega) (by unfold rwC; rw [if_neg (by omega), pk_sub (by omega)])) (f1.st (by decide)) (f2.st (by decide))
          rw [show roP D (tL B n p) (x + 1) = roP D (tL B n p) x from propext ⟨fun q => (roP_s.mp q).1, fun q => roP_s.mpr ⟨q, by omega⟩⟩] at k0
          exact k0
        · skip
          refine go_bipush (v := nI 9) (by decide) dX12_tellRow_140 ?_
          refine go_goto (tgt := 149) dX12_tellRow_142 (by decide) ?_
          refine go_iast (j := (((40 * sd) + (8 * (D.n 1))) + x)) hx.i25 (by omega) (by first | decide | omega) rfl dX12_tellRow_149 ?_
          refine gn_inc (i := 4) (a := x) (q := 1) rfl dX12_tellRow_150 (nle rfl) rfl ?_
          refine go_goto (tgt := 72) dX12_tellRow_153 (by decide) ?_
          have k0 := ih (some (.int (nI ((tL B n p).getD x 0)))) _ (hI.nx (by omega) (by omega) (by unfold rwC; rw [if_pos (by omega)])) (f1.st (by decide)) (f2.st (by decide))
          rw [show roP D (tL B n p) (x + 1) = roP D (tL B n p) x from propext ⟨fun q => (roP_s.mp q).1, fun q => roP_s.mpr ⟨q, by omega⟩⟩] at k0
          exact k0
      · skip
        refine go_iload (i := 5) rfl dX12_tellRow_97 ?_
        refine go_bipush (v := nI 15) (by decide) dX12_tellRow_99 ?_
        refine gn_eq (by omega) (by omega) (tgt := 106) dX12_tellRow_101 (by decide) (fun h101 => ?_) (fun h101 => ?_)
        · skip
          refine go_aload_n (q := 0) (i := 0) rfl rfl dX12_tellRow_106 ?_
          refine go_getR lf12_52 rfl hx.o hx.r25 dX12_tellRow_107 ?_
          refine go_bipush (v := nI 40) (by decide) dX12_tellRow_110 ?_
          refine go_aload_n (q := 0) (i := 0) rfl rfl dX12_tellRow_112 ?_
          refine go_getI lf12_263 rfl hx.o dX12_tellRow_113 ?_
          rw [show gI _ 274 19 = nI sd from (hI.2.2.1 19 (by decide) (by decide) (by decide) (by decide) (by decide)).trans hsd]
          refine gn_mul dX12_tellRow_116 ?_
          refine go_bipush (v := nI 8) (by decide) dX12_tellRow_117 ?_
          refine go_aload_n (q := 0) (i := 0) rfl rfl dX12_tellRow_119 ?_
          refine go_getR lf12_49 rfl hx.o hx.r24 dX12_tellRow_120 ?_
          refine go_aload_n (q := 0) (i := 0) rfl rfl dX12_tellRow_123 ?_
          refine go_getI lf12_263 rfl hx.o dX12_tellRow_124 ?_
          rw [show gI _ 274 19 = nI sd from (hI.2.2.1 19 (by decide) (by decide) (by decide) (by decide) (by decide)).trans hsd]
          refine go_iald (j := sd) hx.i24 (by omega) (by first | decide | omega) rfl dX12_tellRow_127 ?_
          rw [hI.2.2.2.2.1, hU.1.2.1]
          refine gn_mul dX12_tellRow_128 ?_
          refine gn_add dX12_tellRow_129 ?_
          refine go_iload (i := 4) rfl dX12_tellRow_130 ?_
          refine gn_add dX12_tellRow_132 ?_
          refine go_iload (i := 5) rfl dX12_tellRow_133 ?_
          refine go_bipush (v := nI 15) (by decide) dX12_tellRow_135 ?_
          refine gn_ne (by omega) (by omega) (tgt := 145) dX12_tellRow_137 (by decide) (fun h137 => ?_) (fun h137 => ?_)
          · skip
            refine go_iload (i := 5) rfl dX12_tellRow_145 ?_
            refine go_iconst (v := nI 1) (by decide) dX12_tellRow_147 ?_
            refine gn_sub (by omega) dX12_tellRow_148 ?_
            refine go_iast (j := (((40 * sd) + (8 * (D.n 1))) + x)) hx.i25 (by omega) (by first | decide | omega) rfl dX12_tellRow_149 ?_
            refine gn_inc (i := 4) (a := x) (q := 1) rfl dX12_tellRow_150 (nle rfl) rfl ?_
            refine go_goto (tgt := 72) dX12_tellRow_153 (by decide) ?_
            have k0 := ih (some (.int (nI ((tL B n p).getD x 0)))) _ (hI.nx (by omega) (by omega) (by unfold rwC; rw [if_neg (by omega), pk_sub (by omega)])) (f1.st (by decide)) (f2.st (by decide))
            rw [show roP D (tL B n p) (x + 1) = roP D (tL B n p) x from propext ⟨fun q => (roP_s.mp q).1, fun q => roP_s.mpr ⟨q, by omega⟩⟩] at k0
            exact k0
          · skip
            refine go_bipush (v := nI 9) (by decide) dX12_tellRow_140 ?_
            refine go_goto (tgt := 149) dX12_tellRow_142 (by decide) ?_
            refine go_iast (j := (((40 * sd) + (8 * (D.n 1))) + x)) hx.i25 (by omega) (by first | decide | omega) rfl dX12_tellRow_149 ?_
            refine gn_inc (i := 4) (a := x) (q := 1) rfl dX12_tellRow_150 (nle rfl) rfl ?_
            refine go_goto (tgt := 72) dX12_tellRow_153 (by decide) ?_
            have k0 := ih (some (.int (nI ((tL B n p).getD x 0)))) _ (hI.nx (by omega) (by omega) (by unfold rwC; rw [if_pos (by omega)])) (f1.st (by decide)) (f2.st (by decide))
            rw [show roP D (tL B n p) (x + 1) = roP D (tL B n p) x from propext ⟨fun q => (roP_s.mp q).1, fun q => roP_s.mpr ⟨q, by omega⟩⟩] at k0
            exact k0
        · skip
          refine go_iconst (v := nI 0) (by decide) dX12_tellRow_104 ?_
          refine go_istore_n (q := 3) (i := 3) rfl dX12_tellRow_105 (nle rfl) (nle rfl) ?_
          refine go_aload_n (q := 0) (i := 0) rfl rfl dX12_tellRow_106 ?_
          refine go_getR lf12_52 rfl hx.o hx.r25 dX12_tellRow_107 ?_
          refine go_bipush (v := nI 40) (by decide) dX12_tellRow_110 ?_
          refine go_aload_n (q := 0) (i := 0) rfl rfl dX12_tellRow_112 ?_
          refine go_getI lf12_263 rfl hx.o dX12_tellRow_113 ?_
          rw [show gI _ 274 19 = nI sd from (hI.2.2.1 19 (by decide) (by decide) (by decide) (by decide) (by decide)).trans hsd]
          refine gn_mul dX12_tellRow_116 ?_
          refine go_bipush (v := nI 8) (by decide) dX12_tellRow_117 ?_
          refine go_aload_n (q := 0) (i := 0) rfl rfl dX12_tellRow_119 ?_
          refine go_getR lf12_49 rfl hx.o hx.r24 dX12_tellRow_120 ?_
          refine go_aload_n (q := 0) (i := 0) rfl rfl dX12_tellRow_123 ?_
          refine go_getI lf12_263 rfl hx.o dX12_tellRow_124 ?_
          rw [show gI _ 274 19 = nI sd from (hI.2.2.1 19 (by decide) (by decide) (by decide) (by decide) (by decide)).trans hsd]
          refine go_iald (j := sd) hx.i24 (by omega) (by first | decide | omega) rfl dX12_tellRow_127 ?_
          rw [hI.2.2.2.2.1, hU.1.2.1]
          refine gn_mul dX12_tellRow_128 ?_
          refine gn_add dX12_tellRow_129 ?_
          refine go_iload (i := 4) rfl dX12_tellRow_130 ?_
          refine gn_add dX12_tellRow_132 ?_
          refine go_iload (i := 5) rfl dX12_tellRow_133 ?_
          refine go_bipush (v := nI 15) (by decide) dX12_tellRow_135 ?_
          refine gn_ne (by omega) (by omega) (tgt := 145) dX12_tellRow_137 (by decide) (fun h137 => ?_) (fun h137 => ?_)
          · skip
            refine go_iload (i := 5) rfl dX12_tellRow_145 ?_
            refine go_iconst (v := nI 1) (by decide) dX12_tellRow_147 ?_
            refine gn_sub (by omega) dX12_tellRow_148 ?_
            refine go_iast (j := (((40 * sd) + (8 * (D.n 1))) + x)) hx.i25 (by omega) (by first | decide | omega) rfl dX12_tellRow_149 ?_
            refine gn_inc (i := 4) (a := x) (q := 1) rfl dX12_tellRow_150 (nle rfl) rfl ?_
            refine go_goto (tgt := 72) dX12_tellRow_153 (by decide) ?_
            have k0 := ih (some (.int (nI ((tL B n p).getD x 0)))) _ (hI.nx (by omega) (by omega) (by unfold rwC; rw [if_neg (by omega), pk_sub (by omega)])) (f1.st (by decide)) (f2.st (by decide))
            rw [pit_f (show ¬ roP D (tL B n p) (x + 1) from fun q => by have := (roP_s.mp q).2; omega)] at k0
            exact k0
          · skip
            refine go_bipush (v := nI 9) (by decide) dX12_tellRow_140 ?_
            refine go_goto (tgt := 149) dX12_tellRow_142 (by decide) ?_
            refine go_iast (j := (((40 * sd) + (8 * (D.n 1))) + x)) hx.i25 (by omega) (by first | decide | omega) rfl dX12_tellRow_149 ?_
            refine gn_inc (i := 4) (a := x) (q := 1) rfl dX12_tellRow_150 (nle rfl) rfl ?_
            refine go_goto (tgt := 72) dX12_tellRow_153 (by decide) ?_
            have k0 := ih (some (.int (nI ((tL B n p).getD x 0)))) _ (hI.nx (by omega) (by omega) (by unfold rwC; rw [if_pos (by omega)])) (f1.st (by decide)) (f2.st (by decide))
            rw [pit_f (show ¬ roP D (tL B n p) (x + 1) from fun q => by have := (roP_s.mp q).2; omega)] at k0
            exact k0
  have k50 : (gTk (kG B n z) 23 (0, p)).1 = 0 → ∀ (m2 : Me), RwI m m2 sd D (tL B n p) 0 → GM m2 B n z (gTk (kG B n z) 23 (0, p)) → WQ m2 B n z (gTk (kG B n z) 23 (0, p)) w → Go mX12_tellRow (fun o m' => o = none ∧ GM m' B n z (gTk (kG B n z) 25 (gTk (kG B n z) 23 (0, p))) ∧ WQ m' B n z (gTk (kG B n z) 25 (gTk (kG B n z) 23 (0, p))) (wq (¬ rwO D (tL B n p)) 6 p w) ∧ FV sd m m' ∧ ((gTk (kG B n z) 25 (gTk (kG B n z) 23 (0, p))).1 = 0 → RdU m' sd (rwD D (tL B n p)) ∧ ((wq (¬ rwO D (tL B n p)) 6 p w).1 = 0 → RdC m' sd (rwD D (tL B n p))))) 50 [some (.ref 274), some (.int (nI p)), some (.int (nI (tL B n p).length)), none, none, none] [] m2 0 0 := by
    intro hz1 m2 hI f1 f2
    have hx : Wf12 m2.1 (gR m2) := hI.2.2.2.1.wf hx
    have hT2 : TkR m2 B n z := hI.2.2.2.1.tk hT
    have h9 := f1.2.2.2.1
    have hl8 := (hnm p (hk1 hz1)).2.2
    have hrw : rwW D (tL B n p) ≤ 8 := by
      unfold rwW
      split
      · exact hl8
      · omega
    refine go_iload_n (q := 2) (i := 2) rfl rfl dX12_tellRow_50 ?_
    refine go_aload_n (q := 0) (i := 0) rfl rfl dX12_tellRow_51 ?_
    refine go_getR lf12_46 rfl hx.o hx.r23 dX12_tellRow_52 ?_
    refine go_aload_n (q := 0) (i := 0) rfl rfl dX12_tellRow_55 ?_
    refine go_getI lf12_263 rfl hx.o dX12_tellRow_56 ?_
    rw [show gI _ 274 19 = nI sd from (hI.2.2.1 19 (by decide) (by decide) (by decide) (by decide) (by decide)).trans hsd]
    refine go_iald (j := sd) hx.i23 (by omega) (by first | decide | omega) rfl dX12_tellRow_59 ?_
    rw [hI.2.2.2.2.2.1]
    refine gn_ne (by omega) (by omega) (tgt := 67) dX12_tellRow_60 (by decide) (fun h60 => ?_) (fun h60 => ?_)
    · skip
      refine go_iconst (v := nI 0) (by decide) dX12_tellRow_67 ?_
      refine go_istore_n (q := 3) (i := 3) rfl dX12_tellRow_68 (nle rfl) (nle rfl) ?_
      refine go_iconst (v := nI 0) (by decide) dX12_tellRow_69 ?_
      refine go_istore (i := 4) dX12_tellRow_70 (nle rfl) (nle rfl) ?_
      have k0 := k72 hz1 0 (Nat.zero_le _) none m2 hI f1 f2
      rw [pit_f (show ¬ roP D (tL B n p) 0 from fun q => h60 q.1)] at k0
      exact k0
    · skip
      refine go_iconst (v := nI 1) (by decide) dX12_tellRow_63 ?_
      refine go_goto (tgt := 68) dX12_tellRow_64 (by decide) ?_
      refine go_istore_n (q := 3) (i := 3) rfl dX12_tellRow_68 (nle rfl) (nle rfl) ?_
      refine go_iconst (v := nI 0) (by decide) dX12_tellRow_69 ?_
      refine go_istore (i := 4) dX12_tellRow_70 (nle rfl) (nle rfl) ?_
      have k0 := k72 hz1 0 (Nat.zero_le _) none m2 hI f1 f2
      rw [pit_t (show roP D (tL B n p) 0 from ⟨h60, fun j _ hj => absurd hj (Nat.not_lt_zero j)⟩)] at k0
      exact k0
  refine go_aload_n (q := 0) (i := 0) rfl rfl dX12_tellRow_0 ?_
  refine go_getI lf12_233 rfl hx.o dX12_tellRow_1 ?_
  rw [show gI m 274 11 = nI p from h.2.1 rfl]
  refine go_istore_n (q := 1) (i := 1) rfl dX12_tellRow_4 (nle rfl) (nle rfl) ?_
  refine go_aload_n (q := 0) (i := 0) rfl rfl dX12_tellRow_5 ?_
  refine go_iconst (v := nI 1) (by decide) dX12_tellRow_6 ?_
  refine go_callV okmX12_must lmX12_296 ⟨nle rfl, nle rfl⟩ hx.o ⟨by decide, rfl⟩ (ex_must hx hT h (k := 23) (by decide)) npmX12_must rfl (nle rfl) ⟨nle rfl, nle rfl⟩ dX12_tellRow_7 ?_
  rintro _ m1 ⟨rfl, f1, c1⟩
  have hx := c1.wf hx
  have hnk : (gTk (kG B n z) 23 (0, p)).1 = 0 → gJ m 280 p = lN (nkM (tL B n p)) := fun q => (hT.2.2.2 p hpz).2.2.2 (by have hk23 := hk1 q; unfold kG at hk23; rw [if_pos hpz] at hk23; omega)
  refine go_c0 ?_
  refine go_aload_n (q := 0) (i := 0) rfl rfl dX12_tellRow_10 ?_
  refine go_getI lf12_230 rfl hx.o dX12_tellRow_11 ?_
  rw [f1.1]
  have h9 := f1.2.2.2.1
  refine gz_le (by omega) (tgt := 18) dX12_tellRow_14 (by decide) (fun h14 => ?_) (fun h14 => ?_)
  · skip
    refine go_aload_n (q := 0) (i := 0) rfl rfl dX12_tellRow_18 ?_
    refine go_getR lf12_30 rfl hx.o hx.r8 dX12_tellRow_19 ?_
    refine go_iload_n (q := 1) (i := 1) rfl rfl dX12_tellRow_22 ?_
    refine go_lald (j := p) hx.i8 (by omega) (by first | decide | omega) rfl dX12_tellRow_23 ?_
    rw [c1.1.aj (fun a => a), hnk (by omega)]
    refine go_callS okmX12_lettersIn lmX12_320 ⟨nle rfl, nle rfl⟩ (ex_lettersIn ⟨(hnm p (hk1 (by omega))).1, (hnm p (hk1 (by omega))).2.2⟩) npmX12_lettersIn rfl (nle rfl) ⟨nle rfl, nle rfl⟩ dX12_tellRow_24 ?_
    rintro _ mz ⟨rfl, hz⟩
    subst mz
    refine go_c1 ?_
    refine go_istore_n (q := 2) (i := 2) rfl dX12_tellRow_27 (nle rfl) (nle rfl) ?_
    refine go_aload_n (q := 0) (i := 0) rfl rfl dX12_tellRow_28 ?_
    refine go_getR lf12_49 rfl hx.o hx.r24 dX12_tellRow_29 ?_
    refine go_aload_n (q := 0) (i := 0) rfl rfl dX12_tellRow_32 ?_
    refine go_getI lf12_263 rfl hx.o dX12_tellRow_33 ?_
    rw [c1.2 19 (by decide) (by decide) (by decide), hsd]
    refine go_iald (j := sd) hx.i24 (by omega) (by first | decide | omega) rfl dX12_tellRow_36 ?_
    rw [c1.1.at (by decide), hU.1.2.1]
    refine gz_ne (by omega) (tgt := 50) dX12_tellRow_37 (by decide) (fun h37 => ?_) (fun h37 => ?_)
    · skip
      refine k50 (by omega) m1 ⟨fun y a b d e => c1.1.at a, fun y => c1.1.aj (fun a => a), fun k a b d e f => c1.fw.2 k a b d e f, FW.fv c1.fw, c1.1.at (by decide), ?_, fun j => by rw [if_neg (by omega), c1.1.at (by decide)]⟩ f1 (hq.fq c1 gTk_s)
      rw [c1.1.at (by decide), hU.1.1]
      unfold rwW
      rw [if_neg (by omega)]
    · skip
      refine go_aload_n (q := 0) (i := 0) rfl rfl dX12_tellRow_40 ?_
      refine go_getR lf12_46 rfl hx.o hx.r23 dX12_tellRow_41 ?_
      refine go_aload_n (q := 0) (i := 0) rfl rfl dX12_tellRow_44 ?_
      refine go_getI lf12_263 rfl hx.o dX12_tellRow_45 ?_
      rw [c1.2 19 (by decide) (by decide) (by decide), hsd]
      refine go_iload_n (q := 2) (i := 2) rfl rfl dX12_tellRow_48 ?_
      refine go_iast (j := sd) hx.i23 (by omega) (by first | decide | omega) rfl dX12_tellRow_49 ?_
      refine k50 (by omega) _ ⟨fun y a b d e => (gI_n b).trans (c1.1.at a), fun y => c1.1.aj (fun a => a), fun k a b d e f => by rw [gI_n (by decide)]; exact c1.fw.2 k a b d e f, (FW.fv c1.fw).up (by decide) (SD.at rfl), by rw [gI_n (by decide), c1.1.at (by decide)], ?_, fun j => by rw [if_neg (by omega), gI_n (by decide), c1.1.at (by decide)]⟩ (f1.st (by decide)) (WQ.st (hq.fq c1 gTk_s) (by decide))
      rw [gI_s, upd_same]
      unfold rwW
      rw [if_pos (by omega)]
  · skip
    refine go_vret rfl ⟨Nat.zero_le _, Nat.zero_le _⟩ dX12_tellRow_17 ?_
    have hne : (gTk (kG B n z) 23 (0, p)).1 ≠ 0 := by omega
    rw [show (gTk (kG B n z) 25 (gTk (kG B n z) 23 (0, p))) = (gTk (kG B n z) 23 (0, p)) from gTk_f hne]
    exact ⟨rfl, f1, fun q => absurd q hne, FW.fv c1.fw, fun q => absurd q hne⟩
set_option maxRecDepth 100000 in
set_option maxHeartbeats 8000000 in
theorem ex_roomFor {m : Me} {B : Nat → Nat} {n z p k h mx : Nat} {c : Nat → Nat} (hx : Wf12 m.1 (gR m)) (hT : TkR m B n z) (hg : GM m B n z (0, p)) (hk : kG B n z p = k) (hk3 : k ≤ 3) (hc : c k = h) (hm : moO k = mx) (hh : h ≤ mx) (hm12 : mx ≤ 12) : Ev mX12_roomFor [.ref 274, .int (nI h), .int (nI mx)] m (fun o m' => o = none ∧ GM m' B n z (gTk (kG B n z) k (gCn k c (0, p))) ∧ Fq m m') := by
  refine ⟨plmX12_roomFor, nle rfl, ?_⟩
  have hz := hT.2.1
  have hpz : p < z := hg.2.2.2.2.1
  refine go_iload_n (q := 1) (i := 1) rfl rfl dX12_roomFor_0 ?_
  refine go_iload_n (q := 2) (i := 2) rfl rfl dX12_roomFor_1 ?_
  refine gn_ne (by omega) (by omega) (tgt := 10) dX12_roomFor_2 (by decide) (fun h2 => ?_) (fun h2 => ?_)
  · skip
    refine go_aload_n (q := 0) (i := 0) rfl rfl dX12_roomFor_10 ?_
    refine go_getI lf12_230 rfl hx.o dX12_roomFor_11 ?_
    rw [hg.1]
    refine gz_ne (by omega) (tgt := 21) dX12_roomFor_14 (by decide) (fun h14 => by exfalso; omega) (fun h14 => ?_)
    refine go_aload_n (q := 0) (i := 0) rfl rfl dX12_roomFor_17 ?_
    refine go_callV okmX12_goesOn lmX12_251 ⟨nle rfl, nle rfl⟩ hx.o ⟨by decide, rfl⟩ (ex_goesOn hx hT hg (fun b hb hm2 => by rw [show b = p from nI_i (hm2.symm.trans (hg.2.1 rfl)) (by omega) (by omega), hk]; omega)) npmX12_goesOn rfl (nle rfl) ⟨nle rfl, nle rfl⟩ dX12_roomFor_18 ?_
    rintro _ m1 ⟨rfl, f1, c1⟩
    rw [gGo_t (K := kG B n z) (k := k) (fun _ => hk)] at f1
    refine go_c0 ?_
    refine go_vret rfl ⟨Nat.zero_le _, Nat.zero_le _⟩ dX12_roomFor_21 ?_
    rw [show gCn k c (0, p) = (0, p) from if_neg (fun q => by omega)]
    exact ⟨rfl, f1, c1⟩
  · skip
    refine go_aload_n (q := 0) (i := 0) rfl rfl dX12_roomFor_5 ?_
    refine go_iconst (v := nI 2) (by decide) dX12_roomFor_6 ?_
    refine go_callV okmX12_fail lmX12_245 ⟨nle rfl, nle rfl⟩ hx.o ⟨by decide, rfl⟩ (ex_gfail hx hT hg (c := 2) (by decide)) npmX12_fail rfl (nle rfl) ⟨nle rfl, nle rfl⟩ dX12_roomFor_7 ?_
    rintro _ m1 ⟨rfl, f1, c1⟩
    have e : gFl 2 (0, p) = (2, p) := rfl
    rw [e] at f1
    have hx := c1.wf hx
    refine go_c0 ?_
    refine go_aload_n (q := 0) (i := 0) rfl rfl dX12_roomFor_10 ?_
    refine go_getI lf12_230 rfl hx.o dX12_roomFor_11 ?_
    rw [f1.1]
    refine gz_ne (by omega) (tgt := 21) dX12_roomFor_14 (by decide) (fun h14 => ?_) (fun h14 => by exfalso; omega)
    refine go_vret rfl ⟨Nat.zero_le _, Nat.zero_le _⟩ dX12_roomFor_21 ?_
    rw [show gCn k c (0, p) = (2, p) from if_pos ⟨hk3, by omega⟩, show gTk (kG B n z) k (2, p) = (2, p) from gTk_f (Nat.succ_ne_zero 1)]
    exact ⟨rfl, f1, c1⟩
