theorem RdU.fw {m m' : Me} {sd : Nat} {D : Dr} (h : RdU m sd D) (c : FW m m') : RdU m' sd D := h.fv (fun x a b => c.1.at (by omega)) (c.2 20 (by decide) (by decide) (by decide) (by decide) (by decide))
theorem RdC.fw {m m' : Me} {sd : Nat} {D : Dr} (h : RdC m sd D) (c : FW m m') : RdC m' sd D := h.fv (fun x a b => c.1.at (by omega)) (c.1.aj (fun a => a))
theorem LwI.fw {m m' : Me} {sd p : Nat} {D : Dr} (h : LwI m sd D p) (c : FW m m') : LwI m' sd D p := h.keep (fun x a b => c.1.at (by omega)) (fun k hk => c.2 k (by omega) (by omega) (by omega) (by omega) (by omega)) (Nat.le_refl _) rfl
set_option maxRecDepth 100000 in
set_option maxHeartbeats 8000000 in
theorem ex_rd158 {m : Me} {B : Nat → Nat} {n z sd : Nat} {m3 : Me} {x1 : Option Value} {D : Dr} {c : Nat → Nat} {q : Nat} (hx0 : Wf12 m.1 (gR m)) (hn : n ≤ 2000) (hs2 : sd < 2) (hDz : D = (rdF B n z).1) (hcn : CnW c D) (hq4 : q ≤ 400) (hg : GM m3 B n z (0, q)) (hq : WQ m3 B n z (0, q) (rdW B n z)) (hU : RdU m3 sd D) (hC : (rdW B n z).1 = 0 → RdC m3 sd D ∧ DrO D) (hL : LwI m3 sd D q) (hfg : FG sd m m3) (h19 : gI m3 274 19 = nI sd) (h2 : gI m3 274 2 = nI 0) : Go mX12_read (fun o m' => o = some (.int (nI (rdW B n z).1)) ∧ gI m' 274 17 = rdP B n z ∧ gI m' 274 2 = nI 0 ∧ WvR m' ∧ ((rdW B n z).1 ≠ 0 → FG sd m m') ∧ ((rdW B n z).1 = 0 → RrN m m' sd (plD (rdF B n z).1))) 158 [some (.ref 274), x1] [] m3 0 0 := by
  have hx := hfg.wf hx0
  have h9 := (hq rfl).2.2
  refine go_aload_n (q := 0) (i := 0) rfl rfl dX12_read_158 ?_
  refine go_aload_n (q := 0) (i := 0) rfl rfl dX12_read_159 ?_
  refine go_getI lf12_230 rfl hx.o dX12_read_160 ?_
  rw [show gI m3 274 13 = nI 0 from hg.1]
  refine gz_le (by omega) (tgt := 173) dX12_read_163 (by decide) (fun h163 => ?_) (fun h163 => by exfalso; omega)
  refine go_aload_n (q := 0) (i := 0) rfl rfl dX12_read_173 ?_
  refine go_getI lf12_239 rfl hx.o dX12_read_174 ?_
  rw [(hq rfl).1]
  refine gz_le (by omega) (tgt := 187) dX12_read_177 (by decide) (fun h177 => ?_) (fun h177 => ?_)
  · skip
    refine go_iconst (v := -1) (by decide) dX12_read_187 ?_
    refine go_putI lf12_37 rfl (Or.inl rfl) hx.o dX12_read_188 ?_
    refine go_aload_n (q := 0) (i := 0) rfl rfl dX12_read_191 ?_
    refine go_getI lf12_230 rfl hx.o dX12_read_192 ?_
    rw [gI_s, upd_ne (by decide), show gI m3 274 13 = nI 0 from hg.1]
    refine gz_le (by omega) (tgt := 203) dX12_read_195 (by decide) (fun h195 => ?_) (fun h195 => by exfalso; omega)
    refine go_aload_n (q := 0) (i := 0) rfl rfl dX12_read_203 ?_
    refine go_getI lf12_239 rfl hx.o dX12_read_204 ?_
    rw [gI_s, upd_ne (by decide), (hq rfl).1]
    refine gz_le (by omega) (tgt := 215) dX12_read_207 (by decide) (fun h207 => ?_) (fun h207 => by exfalso; omega)
    have hw0 : (rdW B n z).1 = 0 := by omega
    refine ex_rdN hx0 hs2 hw0 hDz (hU.p (by decide)) (hC hw0).1.p (hC hw0).2 hcn (by rw [hDz]; exact (rd_pl hw0).2.2.1) (hL.p (by decide)) hq4 (hfg.p (by decide)) ?_ (by rw [gI_s, upd_ne (by decide)]; exact h19) (by rw [gI_s, upd_ne (by decide)]; exact h2) ?_
    · unfold rdP
      rw [if_pos hw0, gI_s, upd_same]
    · unfold WvR
      rw [gI_s, upd_ne (by decide), gI_n (show 312 ≠ 274 by decide)]
      exact hL.wv
  · skip
    refine go_aload_n (q := 0) (i := 0) rfl rfl dX12_read_180 ?_
    refine go_getI lf12_242 rfl hx.o dX12_read_181 ?_
    rw [(hq rfl).2.1 (by omega)]
    refine go_goto (tgt := 188) dX12_read_184 (by decide) ?_
    refine go_putI lf12_37 rfl (Or.inl rfl) hx.o dX12_read_188 ?_
    refine go_aload_n (q := 0) (i := 0) rfl rfl dX12_read_191 ?_
    refine go_getI lf12_230 rfl hx.o dX12_read_192 ?_
    rw [gI_s, upd_ne (by decide), show gI m3 274 13 = nI 0 from hg.1]
    refine gz_le (by omega) (tgt := 203) dX12_read_195 (by decide) (fun h195 => ?_) (fun h195 => by exfalso; omega)
    refine go_aload_n (q := 0) (i := 0) rfl rfl dX12_read_203 ?_
    refine go_getI lf12_239 rfl hx.o dX12_read_204 ?_
    rw [gI_s, upd_ne (by decide), (hq rfl).1]
    refine gz_le (by omega) (tgt := 215) dX12_read_207 (by decide) (fun h207 => by exfalso; omega) (fun h207 => ?_)
    refine go_aload_n (q := 0) (i := 0) rfl rfl dX12_read_210 ?_
    refine go_getI lf12_239 rfl hx.o dX12_read_211 ?_
    rw [gI_s, upd_ne (by decide), (hq rfl).1]
    refine go_iret rfl ⟨Nat.zero_le _, Nat.zero_le _⟩ dX12_read_214 ?_
    have hw0 : (rdW B n z).1 ≠ 0 := by omega
    refine ⟨rfl, ?_, by rw [gI_s, upd_ne (by decide)]; exact h2, ?_, fun _ => hfg.p (by decide), fun q => absurd q hw0⟩
    · unfold rdP
      rw [if_neg hw0, gI_s, upd_same]
    · unfold WvR
      rw [gI_s, upd_ne (by decide), gI_n (show 312 ≠ 274 by decide)]
      exact hL.wv
set_option maxRecDepth 100000 in
set_option maxHeartbeats 8000000 in
theorem ex_rd134 {m : Me} {B : Nat → Nat} {n z sd : Nat} {m2 : Me} {x1 : Option Value} {D : Dr} {c : Nat → Nat} {q : Nat} {wz : Nat × Nat} (hx0 : Wf12 m.1 (gR m)) (hn : n ≤ 2000) (hs2 : sd < 2) (hDz : D = (rdF B n z).1) (hcn : CnW c D) (hq4 : q ≤ 400) (hwz : wz = (rdF B n z).2) (hS0 : (rdS B n z) = (0, q)) (hpu : PuG B n z) (hT : TkR m2 B n z) (hg : GM m2 B n z (0, q)) (hq : WQ m2 B n z (0, q) wz) (hU : RdU m2 sd D) (hC : wz.1 = 0 → RdC m2 sd D ∧ DrO D) (hw : wz.1 ≠ 0 → wz.2 < q) (hL : LwI m2 sd D q) (hfg : FG sd m m2) (h19 : gI m2 274 19 = nI sd) (h2 : gI m2 274 2 = nI 0) : Go mX12_read (fun o m' => o = some (.int (nI (rdW B n z).1)) ∧ gI m' 274 17 = rdP B n z ∧ gI m' 274 2 = nI 0 ∧ WvR m' ∧ ((rdW B n z).1 ≠ 0 → FG sd m m') ∧ ((rdW B n z).1 = 0 → RrN m m' sd (plD (rdF B n z).1))) 134 [some (.ref 274), x1] [] m2 0 0 := by
  have hx := hfg.wf hx0
  have hz := hT.2.1
  have hqz := hg.2.2.2.2.1
  have hW : rdW B n z = wF D q wz := by
    unfold rdW
    rw [hS0, if_pos rfl, ← hDz, ← hwz]
  have hWz : (rdW B n z).1 = 0 → wz.1 = 0 := fun g => by
    rw [hW] at g
    exact (wq_z (by decide) g).2
  refine go_aload_n (q := 0) (i := 0) rfl rfl dX12_read_134 ?_
  refine go_getI lf12_230 rfl hx.o dX12_read_135 ?_
  rw [show gI m2 274 13 = nI 0 from hg.1]
  refine gz_ne (by omega) (tgt := 158) dX12_read_138 (by decide) (fun h138 => by exfalso; omega) (fun h138 => ?_)
  refine go_aload_n (q := 0) (i := 0) rfl rfl dX12_read_141 ?_
  refine go_callV okmX12_isLand lmX12_278 ⟨nle rfl, nle rfl⟩ hx.o ⟨by decide, rfl⟩ (ex_isLand hx h19 hs2 hU hcn) npmX12_isLand rfl (nle rfl) ⟨nle rfl, nle rfl⟩ dX12_read_142 ?_
  rintro _ mz ⟨rfl, hz⟩
  subst mz
  by_cases hla : LaQ m2 sd D
  · skip
    rw [pit_t hla]
    refine go_c1 ?_
    refine gz_ne (by omega) (tgt := 158) dX12_read_145 (by decide) (fun h145 => ?_) (fun h145 => by exfalso; omega)
    refine ex_rd158 hx0 hn hs2 hDz hcn hq4 hg (hq.e (fun _ => ?_)) hU (fun h0 => hC (hWz h0)) hL hfg h19 h2
    rw [hW]
    by_cases w0 : wz.1 = 0
    · exact wq_n (fun g => g ((la_q hU (hC w0).1 (hC w0).2 hcn).mp hla))
    · exact wq_s w0
  · skip
    rw [pit_f hla]
    refine go_c1 ?_
    refine gz_ne (by omega) (tgt := 158) dX12_read_145 (by decide) (fun h145 => by exfalso; omega) (fun h145 => ?_)
    refine go_aload_n (q := 0) (i := 0) rfl rfl dX12_read_148 ?_
    refine go_bipush (v := nI 6) (by decide) dX12_read_149 ?_
    refine go_aload_n (q := 0) (i := 0) rfl rfl dX12_read_151 ?_
    refine go_getI lf12_233 rfl hx.o dX12_read_152 ?_
    rw [show gI m2 274 11 = nI q from hg.2.1 rfl]
    refine go_callV okmX12_wrong lmX12_282 ⟨nle rfl, nle rfl⟩ hx.o ⟨by decide, rfl⟩ (ex_wrong (w := wz) hx hT hg hq hpu hn (c := 6) (by decide) (j := q) hg.2.2.2.2.1 (fun _ => Wo.lt hw)) npmX12_wrong rfl (nle rfl) ⟨nle rfl, nle rfl⟩ dX12_read_155 ?_
    rintro _ m3 ⟨rfl, f1, f2, f3⟩
    refine go_c0 ?_
    refine ex_rd158 hx0 hn hs2 hDz hcn hq4 f1 (f2.e (fun _ => ?_)) (hU.fw f3) (fun h0 => ⟨(hC (hWz h0)).1.fw f3, (hC (hWz h0)).2⟩) (hL.fw f3) (hfg.tr f3.fg) ((f3.2 19 (by decide) (by decide) (by decide) (by decide) (by decide)).trans h19) ((f3.2 2 (by decide) (by decide) (by decide) (by decide) (by decide)).trans h2)
    rw [hW]
    by_cases w0 : wz.1 = 0
    · exact wq_e ⟨fun _ => True.intro, fun _ g => hla ((la_q hU (hC w0).1 (hC w0).2 hcn).mpr g)⟩
    · rw [show wF D q wz = wz from wq_s w0, wq_s w0]
set_option maxRecDepth 100000 in
set_option maxHeartbeats 8000000 in
theorem ex_rd112 {m : Me} {B : Nat → Nat} {n z sd : Nat} (hx0 : Wf12 m.1 (gR m)) (hn : n ≤ 2000) (hs2 : sd < 2) (hpu : PuG B n z) : ∀ (f p : Nat) (c : Nat → Nat) (D : Dr) (w : Nat × Nat) (m2 : Me) (x1 : Option Value), 401 ≤ f + p → p ≤ 400 → gChk (kG B n z) f c (0, p) = (rdS B n z) → ((rdS B n z).1 = 0 → dA (kG B n z) (vG B n z) (tL B n) f c p D w = (rdF B n z)) → GM m2 B n z (0, p) → WQ m2 B n z (0, p) w → RdU m2 sd D → (w.1 = 0 → RdC m2 sd D ∧ DrO D ∧ NmD D) → CnW c D → (w.1 ≠ 0 → w.2 < p) → LwI m2 sd D p → FG sd m m2 → gI m2 274 19 = nI sd → gI m2 274 2 = nI 0 → TkR m2 B n z → Go mX12_read (fun o m' => o = some (.int (nI (rdW B n z).1)) ∧ gI m' 274 17 = rdP B n z ∧ gI m' 274 2 = nI 0 ∧ WvR m' ∧ ((rdW B n z).1 ≠ 0 → FG sd m m') ∧ ((rdW B n z).1 = 0 → RrN m m' sd (plD (rdF B n z).1))) 112 [some (.ref 274), x1] [] m2 0 0 := by
  intro f
  induction f with
  | zero => intro p c D w m2 x1 h1 h2; omega
  | succ f ih =>
    intro p c D w m2 x1 h1 h2p hch hfin hg hq hU hC hcn hw0 hL hfg h19 h2 hT
    have hx := hfg.wf hx0
    have hz := hT.2.1
    have hpz := hg.2.2.2.2.1
    by_cases hk : kG B n z p = 34
    · have hS : (rdS B n z) = (0, p) := by rw [← hch, gChk_e hk]
      have hfz : D = (rdF B n z).1 ∧ w = (rdF B n z).2 := by
        have := hfin (by rw [hS])
        rw [dA_e hk] at this
        exact ⟨congrArg Prod.fst this, congrArg Prod.snd this⟩
      refine go_aload_n (q := 0) (i := 0) rfl rfl dX12_read_112 ?_
      refine go_getI lf12_230 rfl hx.o dX12_read_113 ?_
      rw [show gI m2 274 13 = nI 0 from hg.1]
      refine gz_ne (by omega) (tgt := 134) dX12_read_116 (by decide) (fun h116 => by exfalso; omega) (fun h116 => ?_)
      refine go_aload_n (q := 0) (i := 0) rfl rfl dX12_read_119 ?_
      refine go_iconst (v := nI 0) (by decide) dX12_read_120 ?_
      refine go_callV okmX12_is lmX12_248 ⟨nle rfl, nle rfl⟩ hx.o ⟨by decide, rfl⟩ (ex_is hx hT hg (k := 34) (by decide)) npmX12_is rfl (nle rfl) ⟨nle rfl, nle rfl⟩ dX12_read_121 ?_
      rintro _ mz ⟨rfl, hz⟩
      subst mz
      rw [if_pos ⟨rfl, hk⟩]
      refine go_c1 ?_
      refine gz_ne (by omega) (tgt := 134) dX12_read_124 (by decide) (fun h124 => ?_) (fun h124 => by exfalso; omega)
      exact ex_rd134 hx0 hn hs2 hfz.1 hcn (by omega) hfz.2 hS hpu hT hg hq hU (fun g => ⟨(hC g).1, (hC g).2.1⟩) hw0 hL hfg h19 h2
    · skip
      refine go_aload_n (q := 0) (i := 0) rfl rfl dX12_read_112 ?_
      refine go_getI lf12_230 rfl hx.o dX12_read_113 ?_
      rw [show gI m2 274 13 = nI 0 from hg.1]
      refine gz_ne (by omega) (tgt := 134) dX12_read_116 (by decide) (fun h116 => by exfalso; omega) (fun h116 => ?_)
      refine go_aload_n (q := 0) (i := 0) rfl rfl dX12_read_119 ?_
      refine go_iconst (v := nI 0) (by decide) dX12_read_120 ?_
      refine go_callV okmX12_is lmX12_248 ⟨nle rfl, nle rfl⟩ hx.o ⟨by decide, rfl⟩ (ex_is hx hT hg (k := 34) (by decide)) npmX12_is rfl (nle rfl) ⟨nle rfl, nle rfl⟩ dX12_read_121 ?_
      rintro _ mz ⟨rfl, hz⟩
      subst mz
      rw [if_neg (fun q => hk q.2)]
      refine go_c1 ?_
      refine gz_ne (by omega) (tgt := 134) dX12_read_124 (by decide) (fun h124 => by exfalso; omega) (fun h124 => ?_)
      refine go_aload_n (q := 0) (i := 0) rfl rfl dX12_read_127 ?_
      refine go_callV okmX12_tellOne lmX12_275 ⟨nle rfl, nle rfl⟩ hx.o ⟨by decide, rfl⟩ (ex_tellOne (c := c) (w := w) (k := kG B n z p) hx hT hg hq hpu hn tok_v tok_n h19 hs2 hU hC hcn hw0 hL rfl h2p) npmX12_tellOne rfl (nle rfl) ⟨nle rfl, nle rfl⟩ dX12_read_128 ?_
      rintro _ m3 ⟨rfl, a2, a3, a4, a5, a6⟩
      refine go_c0 ?_
      refine go_goto (tgt := 112) dX12_read_131 (by decide) ?_
      have h19' : gI m3 274 19 = nI sd := (a4.2.1 19 (by decide) (by decide) (by decide) (by decide) (by decide) (by decide) (by decide) (by decide) (by decide) (by decide)).trans h19
      have h2' : gI m3 274 2 = nI 0 := (a4.2.1 2 (by decide) (by decide) (by decide) (by decide) (by decide) (by decide) (by decide) (by decide) (by decide) (by decide)).trans h2
      by_cases hz1 : (gTell (kG B n z) c (kG B n z p) (0, p)).1 = 0
      · obtain ⟨b1, b2, b3⟩ := te_i (c := c) (p := p) rfl hz1
        obtain ⟨b4, b5, -⟩ := te_sk b2 rfl b1
        obtain ⟨c1, c2, c3⟩ := a6 hz1
        generalize (gTell (kG B n z) c (kG B n z p) (0, p)).2 = r at b2 b3 b4 b5 c3
        rw [b3] at a2 a3
        refine ih r (gUp (kG B n z p) c) _ _ m3 x1 (by omega) b5 (by rw [← hch, gChk_t hk, b3]) (fun g => ?_) a2 a3 c1 (fun g => ?_) (te_cn b2 tok_n hcn) (teW_lt (by omega) b2 hw0) c3 (hfg.tr a4.fg) h19' h2' (FA.tk a4 hT)
        · rw [← hfin g, dA_t hk, b3]
        · obtain ⟨x, y⟩ := te_ok b2 tok_n tok_v g hcn.2 (hC (teW_z g)).2.1 (hC (teW_z g)).2.2
          exact ⟨c2 g, x, y⟩
      · have e : rdS B n z = gTell (kG B n z) c (kG B n z p) (0, p) := by rw [← hch, gChk_t hk, gChk_f hz1]
        exact ex_rdF hx0 hn (by rw [e]; exact a2) (by rw [e]; exact hz1) (hfg.tr a4.fg) h2' a5
