theorem SD.of {sd r j b i : Nat} (hb : bz r = b) (h : j = b * sd + i) (hi : i < b) : SD sd r j := by
  unfold SD
  rw [hb, h]
  exact ⟨Nat.le_add_right _ _, by omega⟩
theorem SD.at {sd r : Nat} (hb : bz r = 1) : SD sd r sd := by
  unfold SD
  rw [hb]
  omega
theorem gT_n {K : Nat → Nat} {k : Nat} {s : Nat × Nat} (h : (gTk K k s).1 = 0) : (gTk K k s).2 = s.2 + 1 := by rw [(gTk_z h).2.2.2]
set_option maxRecDepth 100000 in
set_option maxHeartbeats 8000000 in
theorem ex_tellHolding {m : Me} {B : Nat → Nat} {n z sd p : Nat} {w : Nat × Nat} {D : Dr} {c : Nat → Nat} (hx : Wf12 m.1 (gR m)) (hT : TkR m B n z) (h : GM m B n z (0, p)) (hq : WQ m B n z (0, p) w) (hpu : PuG B n z) (hn : n ≤ 2000) (hV : ∀ j, kG B n z j = 24 → vG B n z j < 65536) (hnm : ∀ j, kG B n z j = 23 → NmO (tL B n j)) (hsd : gI m 274 19 = nI sd) (hs2 : sd < 2) (hU : RdU m sd D) (hC : w.1 = 0 → RdC m sd D ∧ DrO D ∧ NmD D) (hcn : CnW c D) (hw0 : w.1 ≠ 0 → w.2 < p) (h4 : D.n 2 < 4) : Ev mX12_tellHolding [.ref 274] m (fun o m' => o = none ∧ GM m' B n z (gTk (kG B n z) 25 (gTk (kG B n z) 24 (gTk (kG B n z) 24 (gTk (kG B n z) 23 (0, p))))) ∧ WQ m' B n z (gTk (kG B n z) 25 (gTk (kG B n z) 24 (gTk (kG B n z) 24 (gTk (kG B n z) 23 (0, p))))) (wq (999 < (vG B n z (p + 2))) 5 (p + 2) (wq (99 < (vG B n z (p + 1))) 5 (p + 1) (wq (seen D (tL B n p)) 3 p w))) ∧ FV sd m m' ∧ ((gTk (kG B n z) 25 (gTk (kG B n z) 24 (gTk (kG B n z) 24 (gTk (kG B n z) 23 (0, p))))).1 = 0 → RdU m' sd (hoD D (tL B n p) (vG B n z (p + 1)) (vG B n z (p + 2))) ∧ ((wq (999 < (vG B n z (p + 2))) 5 (p + 2) (wq (99 < (vG B n z (p + 1))) 5 (p + 1) (wq (seen D (tL B n p)) 3 p w))).1 = 0 → RdC m' sd (hoD D (tL B n p) (vG B n z (p + 1)) (vG B n z (p + 2)))))) := by
  refine ⟨plmX12_tellHolding, nle rfl, ?_⟩
  obtain ⟨x0, x1, x2, x3, x4, y0, y1, y2, y3⟩ := id hcn
  have hz := hT.2.1
  have hpz : p < z := h.2.2.2.2.1
  have hNm : w.1 = 0 → NmM m D ∧ NoD D := fun q => ⟨(hC q).1.2.2, (hC q).2.1.2.2.2.2.2.2.2.2.2.1, (hC q).2.1.2.2.2.2.2.2.2.2.2.2⟩
  have hMd : w.1 = 0 → NmD D := fun q => (hC q).2.2
  have hT0 := hT
  have E0 : ∀ x, x ≠ 274 → x ≠ 288 → x ≠ 289 → x ≠ 290 → gI m x = gI m x := fun x q0 q288 q289 q290 => rfl
  have J0 : ∀ x, gJ m x = gJ m x := fun x => rfl
  have F0 : ∀ k, k ≠ 11 → k ≠ 13 → k ≠ 14 → k ≠ 15 → k ≠ 16 → gI m 274 k = gI m 274 k := fun k _ _ _ _ _ => rfl
  have fm : FV sd m m := FV.rf
  have R288 : gI m 288 = gI m 288 := rfl
  have R289 : gI m 289 = gI m 289 := rfl
  have R290 : gI m 290 = gI m 290 := rfl
  refine go_iconst (v := nI 4) (by decide) dX12_tellHolding_0 ?_
  refine go_aload_n (q := 0) (i := 0) rfl rfl dX12_tellHolding_1 ?_
  refine go_getI lf12_263 rfl hx.o dX12_tellHolding_2 ?_
  rw [show gI _ 274 19 = nI sd from (F0 19 (by decide) (by decide) (by decide) (by decide) (by decide)).trans hsd]
  refine gn_mul dX12_tellHolding_5 ?_
  refine go_aload_n (q := 0) (i := 0) rfl rfl dX12_tellHolding_6 ?_
  refine go_getR lf12_58 rfl hx.o hx.r27 dX12_tellHolding_7 ?_
  refine go_aload_n (q := 0) (i := 0) rfl rfl dX12_tellHolding_10 ?_
  refine go_getI lf12_263 rfl hx.o dX12_tellHolding_11 ?_
  rw [show gI _ 274 19 = nI sd from (F0 19 (by decide) (by decide) (by decide) (by decide) (by decide)).trans hsd]
  refine go_iald (j := sd) hx.i27 (by omega) (by first | decide | omega) rfl dX12_tellHolding_14 ?_
  rw [hU.1.2.2.1]
  refine gn_add dX12_tellHolding_15 ?_
  refine go_istore_n (q := 1) (i := 1) rfl dX12_tellHolding_16 (nle rfl) (nle rfl) ?_
  refine go_aload_n (q := 0) (i := 0) rfl rfl dX12_tellHolding_17 ?_
  refine go_callV okmX12_named lmX12_328 ⟨nle rfl, nle rfl⟩ hx.o ⟨by decide, rfl⟩ (ex_named hx hT h hq hpu hn hU.2.2.2.2.2 (by omega) hNm (fun q => hnm p q) (fun _ => hw0)) npmX12_named rfl (nle rfl) ⟨nle rfl, nle rfl⟩ dX12_tellHolding_18 ?_
  rintro _ m1 ⟨⟨a, haz, rfl, has⟩, f1, f2, c1⟩
  have fm := fm.tr (FW.fv (sd := sd) c1)
  have hx := FW.wf c1 hx
  have hT := FW.tk c1 hT
  have E0 : ∀ x, x ≠ 274 → x ≠ 288 → x ≠ 289 → x ≠ 290 → gI m1 x = gI m x := fun x q0 q288 q289 q290 => ((c1).1.at q0).trans (E0 x q0 q288 q289 q290)
  have J0 : ∀ x, gJ m1 x = gJ m x := fun x => ((c1).1.aj (fun a => a)).trans (J0 x)
  have F0 : ∀ k, k ≠ 11 → k ≠ 13 → k ≠ 14 → k ≠ 15 → k ≠ 16 → gI m1 274 k = gI m 274 k := fun k a b d e f => ((c1).2 k a b d e f).trans (F0 k a b d e f)
  have R288 := ((c1).1.at (x := 288) (by decide)).trans R288
  have R289 := ((c1).1.at (x := 289) (by decide)).trans R289
  have R290 := ((c1).1.at (x := 290) (by decide)).trans R290
  have f2 : WQ m1 B n z (gTk (kG B n z) 23 (0, p)) (wq (seen D (tL B n p)) 3 p w) := f2
  have has := has rfl
  refine go_c1 ?_
  refine go_istore_n (q := 2) (i := 2) rfl dX12_tellHolding_21 (nle rfl) (nle rfl) ?_
  refine go_aload_n (q := 0) (i := 0) rfl rfl dX12_tellHolding_22 ?_
  refine go_getR lf12_61 rfl hx.o hx.r28 dX12_tellHolding_23 ?_
  refine go_iload_n (q := 1) (i := 1) rfl rfl dX12_tellHolding_26 ?_
  refine go_aload_n (q := 0) (i := 0) rfl rfl dX12_tellHolding_27 ?_
  refine go_iconst (v := nI 0) (by decide) dX12_tellHolding_28 ?_
  refine go_bipush (v := nI 99) (by decide) dX12_tellHolding_29 ?_
  refine go_callV okmX12_bounded lmX12_292 ⟨nle rfl, nle rfl⟩ hx.o ⟨by decide, rfl⟩ (ex_bounded (w := wq (seen D (tL B n p)) 3 p w) hx hT f1 f2 hpu hn hV (a := 0) (b := 99) (by omega) (by omega) (fun q => by rw [show (gTk (kG B n z) 23 (0, p)).2 = (p + 1) from (gT_n q)]; exact Wo.lt (wq_lt hw0))) npmX12_bounded rfl (nle rfl) ⟨nle rfl, nle rfl⟩ dX12_tellHolding_31 ?_
  rintro _ m2 ⟨⟨v1, rfl, hv1⟩, f1, f2, c1⟩
  have fm := fm.tr (FW.fv (sd := sd) c1)
  have hx := FW.wf c1 hx
  have hT := FW.tk c1 hT
  have E0 : ∀ x, x ≠ 274 → x ≠ 288 → x ≠ 289 → x ≠ 290 → gI m2 x = gI m x := fun x q0 q288 q289 q290 => ((c1).1.at q0).trans (E0 x q0 q288 q289 q290)
  have J0 : ∀ x, gJ m2 x = gJ m x := fun x => ((c1).1.aj (fun a => a)).trans (J0 x)
  have F0 : ∀ k, k ≠ 11 → k ≠ 13 → k ≠ 14 → k ≠ 15 → k ≠ 16 → gI m2 274 k = gI m 274 k := fun k a b d e f => ((c1).2 k a b d e f).trans (F0 k a b d e f)
  have R288 := ((c1).1.at (x := 288) (by decide)).trans R288
  have R289 := ((c1).1.at (x := 289) (by decide)).trans R289
  have R290 := ((c1).1.at (x := 290) (by decide)).trans R290
  have f2 : WQ m2 B n z (gTk (kG B n z) 24 (gTk (kG B n z) 23 (0, p))) (wq (99 < (vG B n z (p + 1))) 5 (p + 1) (wq (seen D (tL B n p)) 3 p w)) := f2.e (fun q => by rw [show (gTk (kG B n z) 23 (0, p)).2 = (p + 1) from (fun q => (gT_n q)) (gTk_s q)]; exact wq_e (by omega))
  have hv1 : (gTk (kG B n z) 24 (gTk (kG B n z) 23 (0, p))).1 = 0 → v1 = nI (vG B n z (p + 1)) := fun q => by rw [hv1 q, show (gTk (kG B n z) 23 (0, p)).2 = (p + 1) from (fun q => (gT_n q)) (gTk_s q)]
  refine go_c1 ?_
  refine go_iast (j := ((4 * sd) + (D.n 2))) hx.i28 (by omega) (by first | decide | omega) rfl dX12_tellHolding_34 ?_
  generalize hmE : sI m2 289 (upd (gI m2 289) (4 * sd + D.n 2) (v1)) = m3
  have fm : FV sd m m3 := by rw [← hmE]; exact fm.up (by decide) (SD.of (b := 4) (i := D.n 2) rfl rfl (by omega))
  have hx : Wf12 m3.1 (gR m3) := by rw [← hmE]; exact hx
  have hT : TkR m3 B n z := by rw [← hmE]; exact hT.st (by decide)
  have E0 : ∀ x, x ≠ 274 → x ≠ 288 → x ≠ 289 → x ≠ 290 → gI m3 x = gI m x := fun x q0 q288 q289 q290 => by rw [← hmE, gI_n q289]; exact E0 x q0 q288 q289 q290
  have J0 : ∀ x, gJ m3 x = gJ m x := fun x => by rw [← hmE, gJ_I]; exact J0 x
  have F0 : ∀ k, k ≠ 11 → k ≠ 13 → k ≠ 14 → k ≠ 15 → k ≠ 16 → gI m3 274 k = gI m 274 k := fun k a b d e f => by rw [← hmE, gI_n (by decide)]; exact F0 k a b d e f
  have R288 := (show gI m3 288 = _ by rw [← hmE, gI_n (by decide), R288])
  have R289 := (show gI m3 289 = _ by rw [← hmE, gI_s, R289])
  have R290 := (show gI m3 290 = _ by rw [← hmE, gI_n (by decide), R290])
  have f1 : GM m3 B n z (gTk (kG B n z) 24 (gTk (kG B n z) 23 (0, p))) := by rw [← hmE]; exact f1.st (by decide)
  have f2 : WQ m3 B n z (gTk (kG B n z) 24 (gTk (kG B n z) 23 (0, p))) (wq (99 < (vG B n z (p + 1))) 5 (p + 1) (wq (seen D (tL B n p)) 3 p w)) := by rw [← hmE]; exact f2.st (by decide)
  clear hmE
  refine go_aload_n (q := 0) (i := 0) rfl rfl dX12_tellHolding_35 ?_
  refine go_getR lf12_64 rfl hx.o hx.r29 dX12_tellHolding_36 ?_
  refine go_iload_n (q := 1) (i := 1) rfl rfl dX12_tellHolding_39 ?_
  refine go_aload_n (q := 0) (i := 0) rfl rfl dX12_tellHolding_40 ?_
  refine go_iconst (v := nI 0) (by decide) dX12_tellHolding_41 ?_
  refine go_sipush (v := nI 999) (by decide) dX12_tellHolding_42 ?_
  refine go_callV okmX12_bounded lmX12_292 ⟨nle rfl, nle rfl⟩ hx.o ⟨by decide, rfl⟩ (ex_bounded (w := wq (99 < (vG B n z (p + 1))) 5 (p + 1) (wq (seen D (tL B n p)) 3 p w)) hx hT f1 f2 hpu hn hV (a := 0) (b := 999) (by omega) (by omega) (fun q => by rw [show (gTk (kG B n z) 24 (gTk (kG B n z) 23 (0, p))).2 = (p + 2) from ((gT_n q).trans (congrArg (fun x => x + 1) (gT_n (gTk_s q))))]; exact Wo.lt (wq_lt (wq_lt hw0)))) npmX12_bounded rfl (nle rfl) ⟨nle rfl, nle rfl⟩ dX12_tellHolding_45 ?_
  rintro _ m4 ⟨⟨v2, rfl, hv2⟩, f1, f2, c1⟩
  have fm := fm.tr (FW.fv (sd := sd) c1)
  have hx := FW.wf c1 hx
  have hT := FW.tk c1 hT
  have E0 : ∀ x, x ≠ 274 → x ≠ 288 → x ≠ 289 → x ≠ 290 → gI m4 x = gI m x := fun x q0 q288 q289 q290 => ((c1).1.at q0).trans (E0 x q0 q288 q289 q290)
  have J0 : ∀ x, gJ m4 x = gJ m x := fun x => ((c1).1.aj (fun a => a)).trans (J0 x)
  have F0 : ∀ k, k ≠ 11 → k ≠ 13 → k ≠ 14 → k ≠ 15 → k ≠ 16 → gI m4 274 k = gI m 274 k := fun k a b d e f => ((c1).2 k a b d e f).trans (F0 k a b d e f)
  have R288 := ((c1).1.at (x := 288) (by decide)).trans R288
  have R289 := ((c1).1.at (x := 289) (by decide)).trans R289
  have R290 := ((c1).1.at (x := 290) (by decide)).trans R290
  have f2 : WQ m4 B n z (gTk (kG B n z) 24 (gTk (kG B n z) 24 (gTk (kG B n z) 23 (0, p)))) (wq (999 < (vG B n z (p + 2))) 5 (p + 2) (wq (99 < (vG B n z (p + 1))) 5 (p + 1) (wq (seen D (tL B n p)) 3 p w))) := f2.e (fun q => by rw [show (gTk (kG B n z) 24 (gTk (kG B n z) 23 (0, p))).2 = (p + 2) from (fun q => ((gT_n q).trans (congrArg (fun x => x + 1) (gT_n (gTk_s q))))) (gTk_s q)]; exact wq_e (by omega))
  have hv2 : (gTk (kG B n z) 24 (gTk (kG B n z) 24 (gTk (kG B n z) 23 (0, p)))).1 = 0 → v2 = nI (vG B n z (p + 2)) := fun q => by rw [hv2 q, show (gTk (kG B n z) 24 (gTk (kG B n z) 23 (0, p))).2 = (p + 2) from (fun q => ((gT_n q).trans (congrArg (fun x => x + 1) (gT_n (gTk_s q))))) (gTk_s q)]
  refine go_c1 ?_
  refine go_iast (j := ((4 * sd) + (D.n 2))) hx.i29 (by omega) (by first | decide | omega) rfl dX12_tellHolding_48 ?_
  generalize hmE : sI m4 290 (upd (gI m4 290) (4 * sd + D.n 2) (v2)) = m5
  have fm : FV sd m m5 := by rw [← hmE]; exact fm.up (by decide) (SD.of (b := 4) (i := D.n 2) rfl rfl (by omega))
  have hx : Wf12 m5.1 (gR m5) := by rw [← hmE]; exact hx
  have hT : TkR m5 B n z := by rw [← hmE]; exact hT.st (by decide)
  have E0 : ∀ x, x ≠ 274 → x ≠ 288 → x ≠ 289 → x ≠ 290 → gI m5 x = gI m x := fun x q0 q288 q289 q290 => by rw [← hmE, gI_n q290]; exact E0 x q0 q288 q289 q290
  have J0 : ∀ x, gJ m5 x = gJ m x := fun x => by rw [← hmE, gJ_I]; exact J0 x
  have F0 : ∀ k, k ≠ 11 → k ≠ 13 → k ≠ 14 → k ≠ 15 → k ≠ 16 → gI m5 274 k = gI m 274 k := fun k a b d e f => by rw [← hmE, gI_n (by decide)]; exact F0 k a b d e f
  have R288 := (show gI m5 288 = _ by rw [← hmE, gI_n (by decide), R288])
  have R289 := (show gI m5 289 = _ by rw [← hmE, gI_n (by decide), R289])
  have R290 := (show gI m5 290 = _ by rw [← hmE, gI_s, R290])
  have f1 : GM m5 B n z (gTk (kG B n z) 24 (gTk (kG B n z) 24 (gTk (kG B n z) 23 (0, p)))) := by rw [← hmE]; exact f1.st (by decide)
  have f2 : WQ m5 B n z (gTk (kG B n z) 24 (gTk (kG B n z) 24 (gTk (kG B n z) 23 (0, p)))) (wq (999 < (vG B n z (p + 2))) 5 (p + 2) (wq (99 < (vG B n z (p + 1))) 5 (p + 1) (wq (seen D (tL B n p)) 3 p w))) := by rw [← hmE]; exact f2.st (by decide)
  clear hmE
  refine go_aload_n (q := 0) (i := 0) rfl rfl dX12_tellHolding_49 ?_
  refine go_iload_n (q := 2) (i := 2) rfl rfl dX12_tellHolding_50 ?_
  refine go_aload_n (q := 0) (i := 0) rfl rfl dX12_tellHolding_51 ?_
  refine go_getR lf12_58 rfl hx.o hx.r27 dX12_tellHolding_52 ?_
  refine go_aload_n (q := 0) (i := 0) rfl rfl dX12_tellHolding_55 ?_
  refine go_getI lf12_263 rfl hx.o dX12_tellHolding_56 ?_
  rw [show gI _ 274 19 = nI sd from (F0 19 (by decide) (by decide) (by decide) (by decide) (by decide)).trans hsd]
  refine go_iald (j := sd) hx.i27 (by omega) (by first | decide | omega) rfl dX12_tellHolding_59 ?_
  rw [R288, hU.1.2.2.1]
  refine go_callV okmX12_ends lmX12_332 ⟨nle rfl, nle rfl⟩ hx.o ⟨by decide, rfl⟩ (ex_ends (N := D.n 2 + D.n 3) (v := nI (D.n 2)) hx hT f1 ((F0 20 (by decide) (by decide) (by decide) (by decide) (by decide)).trans hU.2.2.2.2.2) (by omega) (t := a) haz) npmX12_ends rfl (nle rfl) ⟨nle rfl, nle rfl⟩ dX12_tellHolding_60 ?_
  rintro _ m6 ⟨rfl, f1', c1, ce⟩
  have hx := c1.wf hx
  have hT := c1.tk hT
  have f2' := f2
  have f1 := f1'
  have h9 := f1.2.2.2.1
  have fm := fm.tr (FN.fv (sd := sd) c1)
  refine go_c0 ?_
  refine go_aload_n (q := 0) (i := 0) rfl rfl dX12_tellHolding_63 ?_
  refine go_getI lf12_230 rfl hx.o dX12_tellHolding_64 ?_
  rw [f1.1]
  refine gz_ne (by omega) (tgt := 83) dX12_tellHolding_67 (by decide) (fun h67 => ?_) (fun h67 => ?_)
  · skip
    refine go_vret rfl ⟨Nat.zero_le _, Nat.zero_le _⟩ dX12_tellHolding_83 ?_
    have hne : (gTk (kG B n z) 25 (gTk (kG B n z) 24 (gTk (kG B n z) 24 (gTk (kG B n z) 23 (0, p))))).1 ≠ 0 := by omega
    exact ⟨rfl, f1, fun q => absurd q hne, fm, fun q => absurd q hne⟩
  · skip
    refine go_aload_n (q := 0) (i := 0) rfl rfl dX12_tellHolding_70 ?_
    refine go_getR lf12_58 rfl hx.o hx.r27 dX12_tellHolding_71 ?_
    refine go_aload_n (q := 0) (i := 0) rfl rfl dX12_tellHolding_74 ?_
    refine go_getI lf12_263 rfl hx.o dX12_tellHolding_75 ?_
    rw [c1.2 19 (by decide) (by decide) (by decide) (by decide), show gI _ 274 19 = nI sd from (F0 19 (by decide) (by decide) (by decide) (by decide) (by decide)).trans hsd]
    refine go_dup2 rfl rfl dX12_tellHolding_78 ?_
    refine go_iald (j := sd) hx.i27 (by omega) (by first | decide | omega) rfl dX12_tellHolding_79 ?_
    rw [c1.1.at (by decide), R288, hU.1.2.2.1]
    refine go_iconst (v := nI 1) (by decide) dX12_tellHolding_80 ?_
    refine gn_add dX12_tellHolding_81 ?_
    refine go_iast (j := sd) hx.i27 (by omega) (by first | decide | omega) rfl dX12_tellHolding_82 ?_
    refine go_vret rfl ⟨Nat.zero_le _, Nat.zero_le _⟩ dX12_tellHolding_83 ?_
    have hz4 : (gTk (kG B n z) 25 (gTk (kG B n z) 24 (gTk (kG B n z) 24 (gTk (kG B n z) 23 (0, p))))).1 = 0 := by omega
    have hz3 := gTk_s hz4
    have hz2 := gTk_s hz3
    have hz1 := gTk_s hz2
    have hk1 : kG B n z p = 23 := (gTk_z hz1).2.1
    obtain ⟨e1, e2, e3⟩ := ce hz4
    rw [J0] at e1
    have h83 : gI m5 283 = gI m 283 := E0 283 (by decide) (by decide) (by decide) (by decide)
    rw [h83] at e2
    have hnk : gJ m 280 a = lN (nkM (tL B n p)) := by
      rw [has]
      exact (hT0.2.2.2 p hpz).2.2.2 (by unfold kG at hk1; rw [if_pos hpz] at hk1; omega)
    rw [J0, hnk] at e1
    rw [hv1 hz2] at R289
    rw [hv2 hz3] at R290
    have RR := Rd.ho (m' := sI m6 288 (upd (gI m6 288) sd (nI (D.n 2 + 1)))) hU ⟨by omega, by omega⟩ (fun x a1 a2 a3 a4 a5 => by rw [gI_n a3, c1.1.at (by omega)]; exact E0 x a1 a3 a4 a5) (by rw [gI_s, c1.1.at (by decide), R288]) (by rw [gI_n (by decide), c1.1.at (by decide)]; exact R289) (by rw [gI_n (by decide), c1.1.at (by decide)]; exact R290) (by rw [gI_n (by decide)]; exact e3) (by rw [gJ_I]; exact e1) (by rw [gI_n (by decide)]; exact e2)
    refine ⟨rfl, f1.st (by decide), ?_, fm.up (by decide) (SD.at rfl), fun _ => ⟨RR.1, fun z0 => RR.2 (hC (wq_z (by decide) (wq_z (by decide) (wq_z (by decide) z0).2).2).2).1⟩⟩
    refine WQ.st (fun q => ?_) (by decide)
    rw [c1.2 15 (by decide) (by decide) (by decide) (by decide), c1.2 16 (by decide) (by decide) (by decide) (by decide)]
    exact f2 hz3
