theorem SD.of {sd r j b i : Nat} (hb : bz r = b) (h : j = b * sd + i) (hi : i < b) : SD sd r j := by
  unfold SD
  rw [hb, h]
  exact ⟨Nat.le_add_right _ _, by omega⟩
theorem SD.at {sd r : Nat} (hb : bz r = 1) : SD sd r sd := by
  unfold SD
  rw [hb]
  omega
theorem gT_n {K : Nat → Nat} {k : Nat} {s : Nat × Nat} (h : (gTk K k s).1 = 0) : (gTk K k s).2 = s.2 + 1 := by rw [(gTk_z h).2.2.2]
set_option maxRecDepth 100000 in
set_option maxHeartbeats 8000000 in
theorem ex_tellHolding {m : Me} {B : Nat → Nat} {n z sd p : Nat} {w : Nat × Nat} {D : Dr} {c : Nat → Nat} (hx : Wf12 m.1 (gR m)) (hT : TkR m B n z) (h : GM m B n z (0, p)) (hq : WQ m B n z (0, p) w) (hpu : PuG B n z) (hn : n ≤ 2000) (hV : ∀ j, kG B n z j = 24 → vG B n z j < 65536) (hnm : ∀ j, kG B n z j = 23 → NmO (tL B n j)) (hsd : gI m 274 19 = nI sd) (hs2 : sd < 2) (hU : RdU m sd D) (hC : w.1 = 0 → RdC m sd D ∧ DrO D ∧ NmD D) (hcn : CnW c D) (hw0 : w.1 ≠ 0 → w.2 < p) (h4 : D.n 2 < 4) : Ev mX12_tellHolding [.ref 274] m (fun o m' => o = none ∧ GM m' B n z (gTk (kG B n z) 25 (gTk (kG B n z) 24 (gTk (kG B n z) 24 (gTk (kG B n z) 23 (0, p))))) ∧ WQ m' B n z (gTk (kG B n z) 25 (gTk (kG B n z) 24 (gTk (kG B n z) 24 (gTk (kG B n z) 23 (0, p))))) (wq (999 < (vG B n z (p + 2))) 5 (p + 2) (wq (99 < (vG B n z (p + 1))) 5 (p + 1) (wq (seen D (tL B n p)) 3 p w))) ∧ FV sd m m' ∧ ((gTk (kG B n z) 25 (gTk (kG B n z) 24 (gTk (kG B n z) 24 (gTk (kG B n z) 23 (0, p))))).1 = 0 → RdU m' sd (hoD D (tL B n p) (vG B n z (p + 1)) (vG B n z (p + 2))) ∧ ((wq (999 < (vG B n z (p + 2))) 5 (p + 2) (wq (99 < (vG B n z (p + 1))) 5 (p + 1) (wq (seen D (tL B n p)) 3 p w))).1 = 0 → RdC m' sd (hoD D (tL B n p) (vG B n z (p + 1)) (vG B n z (p + 2)))))) := by
  refine ⟨plmX12_tellHolding, nle rfl, ?_⟩
  obtain ⟨x0, x1, x2, x3, x4, y0, y1, y2, y3⟩ := id hcn
  have hz := hT.2.1
  have hpz : p < z := h.2.2.2.2.1
  have hNm : w.1 = 0 → NmM m D ∧ NoD D := fun q => ⟨(hC q).1.2.2, (hC q).2.1.2.2.2.2.2.2.2.2.2.1, (hC q).2.1.2.2.2.2.2.2.2.2.2.2⟩
  have hMd : w.1 = 0 → NmD D := fun q => (hC q).2.2
  have hT0 := hT
  have E0 : ∀ x, x ≠ 274 → x ≠ 288 → x ≠ 289 → x ≠ 290 → gI m x = gI m x := fun x q0 q288 q289 q290 => rfl
  have J0 : ∀ x, gJ m x = gJ m x := fun x => rfl
  have F0 : ∀ k, k ≠ 11 → k ≠ 13 → k ≠ 14 → k ≠ 15 → k ≠ 16 → gI m 274 k = gI m 274 k := fun k _ _ _ _ _ => rfl
  have fm : FV sd m m := FV.rf
  have R288 : gI m 288 = gI m 288 := rfl
  have R289 : gI m 289 = gI m 289 := rfl
  have R290 : gI m 290 = gI m 290 := rfl
  refine go_iconst (v := nI 4) (by decide) dX12_tellHolding_0 ?_
  refine go_aload_n (q := 0) (i := 0) rfl rfl dX12_tellHolding_1 ?_
  refine go_getI lf12_263 rfl hx.o dX12_tellHolding_2 ?_
  rw [show gI _ 274 19 = nI sd from (F0 19 (by decide) (by decide) (by decide) (by decide) (by decide)).trans hsd]
  refine gn_mul dX12_tellHolding_5 ?_
  refine go_aload_n (q := 0) (i := 0) rfl rfl dX12_tellHolding_6 ?_
  refine go_getR lf12_58 rfl hx.o hx.r27 dX12_tellHolding_7 ?_
  refine go_aload_n (q := 0) (i := 0) rfl rfl dX12_tellHolding_10 ?_
  refine go_getI lf12_263 rfl hx.o dX12_tellHolding_11 ?_
  rw [show gI _ 274 19 = nI sd from (F0 19 (by decide) (by decide) (by decide) (by decide) (by decide)).trans hsd]
  refine go_iald (j := sd) hx.i27 (by omega) (by first | decide | omega) rfl dX12_tellHolding_14 ?_
  rw [hU.1.2.2.1]
  refine gn_add dX12_tellHolding_15 ?_
  refine go_istore_n (q := 1) (i := 1) rfl dX12_tellHolding_16 (nle rfl) (nle rfl) ?_
  refine go_aload_n (q := 0) (i := 0) rfl rfl dX12_tellHolding_17 ?_
  refine go_callV okmX12_named lmX12_328 ⟨nle rfl, nle rfl⟩ hx.o ⟨by decide, rfl⟩ (ex_named hx hT h hq hpu hn hU.2.2.2.2.2 (by omega) hNm (fun q => hnm p q) (fun _ => hw0)) npmX12_named rfl (nle rfl) ⟨nle rfl, nle rfl⟩ dX12_tellHolding_18 ?_
  rintro _ m1 ⟨⟨a, haz, rfl, has⟩, f1, f2, c1⟩
  have fm := fm.tr (FW.fv (sd := sd) c1)
  have hx := FW.wf c1 hx
  have hT := FW.tk c1 hT
  have E0 : ∀ x, x ≠ 274 → x ≠ 288 → x ≠ 289 → x ≠ 290 → gI m1 x = gI m x := fun x q0 q288 q289 q290 => ((c1).1.at q0).trans (E0 x q0 q288 q289 q290)
  have J0 : ∀ x, gJ m1 x = gJ m x := fun x => ((c1).1.aj (fun a => a)).trans (J0 x)
  have F0 : ∀ k, k ≠ 11 → k ≠ 13 → k ≠ 14 → k ≠ 15 → k ≠ 16 → gI m1 274 k = gI m 274 k := fun k a b d e f => ((c1).2 k a b d e f).trans (F0 k a b d e f)
  have R288 := ((c1).1.at (x := 288) (by decide)).trans R288
  have R289 := ((c1).1.at (x := 289) (by decide)).trans R289
  have R290 := ((c1).1.at (x := 290) (by decide)).trans R290
  have f2 : WQ m1 B n z (gTk (kG B n z) 23 (0, p)) (wq (seen D (tL B n p)) 3 p w) := f2
  have has := has rfl
  refine go_c1 ?_
  refine go_istore_n (q := 2) (i := 2) rfl dX12_tellHolding_21 (nle rfl) (nle rfl) ?_
  refine go_aload_n (q := 0) (i := 0) rfl rfl dX12_tellHolding_22 ?_
  refine go_getR lf12_61 rfl hx.o hx.r28 dX12_tellHolding_23 ?_
  refine go_iload_n (q := 1) (i := 1) rfl rfl dX12_tellHolding_26 ?_
  refine go_aload_n (q := 0) (i := 0) rfl rfl dX12_tellHolding_27 ?_
  refine go_iconst (v := nI 0) (by decide) dX12_tellHolding_28 ?_
  refine go_bipush (v := nI 99) (by decide) dX12_tellHolding_29 ?_
  refine go_callV okmX12_bounded lmX12_292 ⟨nle rfl, nle rfl⟩ hx.o ⟨by decide, rfl⟩ (ex_bounded (w := wq (seen D (tL B n p)) 3 p w) hx hT f1 f2 hpu hn hV (a := 0) (b := 99) (by omega) (by omega) (fun q => by rw [show (gTk (kG B n z) 23 (0, p)).2 = (p + 1) from (gT_n q)]; exact Wo.lt (wq_lt hw0))) npmX12_bounded rfl (nle rfl) ⟨nle rfl, nle rfl⟩ dX12_tellHolding_31 ?_
  rintro _ m2 ⟨⟨v1, rfl, hv1⟩, f1, f2, c1⟩
  have fm := fm.tr (FW.fv (sd := sd) c1)
  have hx := FW.wf c1 hx
  have hT := FW.tk c1 hT
  have E0 : ∀ x, x ≠ 274 → x ≠ 288 → x ≠ 289 → x ≠ 290 → gI m2 x = gI m x := fun x q0 q288 q289 q290 => ((c1).1.at q0).trans (E0 x q0 q288 q289 q290)
  have J0 : ∀ x, gJ m2 x = gJ m x := fun x => ((c1).1.aj (fun a => a)).trans (J0 x)
  have F0 : ∀ k, k ≠ 11 → k ≠ 13 → k ≠ 14 → k ≠ 15 → k ≠ 16 → gI m2 274 k = gI m 274 k := fun k a b d e f => ((c1).2 k a b d e f).trans (F0 k a b d e f)
  have R288 := ((c1).1.at (x := 288) (by decide)).trans R288
  have R289 := ((c1).1.at (x := 289) (by decide)).trans R289
  have R290 := ((c1).1.at (x := 290) (by decide)).trans R290
  have f2 : WQ m2 B n z (gTk (kG B n z) 24 (gTk (kG B n z) 23 (0, p))) (wq (99 < (vG B n z (p + 1))) 5 (p + 1) (wq (seen D (tL B n p)) 3 p w)) := f2.e (fun q => by rw [show (gTk (kG B n z) 23 (0, p)).2 = (p + 1) from (fun q => (gT_n q)) (gTk_s q)]; first | done | exact wq_e (by omega))
  have hv1 : (gTk (kG B n z) 24 (gTk (kG B n z) 23 (0, p))).1 = 0 → v1 = nI (vG B n z (p + 1)) := fun q => by rw [hv1 q, show (gTk (kG B n z) 23 (0, p)).2 = (p + 1) from (fun q => (gT_n q)) (gTk_s q)]
  refine go_c1 ?_
  refine go_iast (j := ((4 * sd) + (D.n 2))) hx.i28 (by omega) (by first | decide | omega) rfl dX12_tellHolding_34 ?_
  generalize hmE : sI m2 289 (upd (gI m2 289) (4 * sd + D.n 2) (v1)) = m3
  have fm : FV sd m m3 := by rw [← hmE]; exact fm.up (by decide) (SD.of (b := 4) (i := D.n 2) rfl rfl (by omega))
  have hx : Wf12 m3.1 (gR m3) := by rw [← hmE]; exact hx
  have hT : TkR m3 B n z := by rw [← hmE]; exact hT.st (by decide)
  have E0 : ∀ x, x ≠ 274 → x ≠ 288 → x ≠ 289 → x ≠ 290 → gI m3 x = gI m x := fun x q0 q288 q289 q290 => by rw [← hmE, gI_n q289]; exact E0 x q0 q288 q289 q290
  have J0 : ∀ x, gJ m3 x = gJ m x := fun x => by rw [← hmE, gJ_I]; exact J0 x
  have F0 : ∀ k, k ≠ 11 → k ≠ 13 → k ≠ 14 → k ≠ 15 → k ≠ 16 → gI m3 274 k = gI m 274 k := fun k a b d e f => by rw [← hmE, gI_n (by decide)]; exact F0 k a b d e f
  have R288 := (show gI m3 288 = _ by rw [← hmE, gI_n (by decide), R288])
  have R289 := (show gI m3 289 = _ by rw [← hmE, gI_s, R289])
  have R290 := (show gI m3 290 = _ by rw [← hmE, gI_n (by decide), R290])
  have f1 : GM m3 B n z (gTk (kG B n z) 24 (gTk (kG B n z) 23 (0, p))) := by rw [← hmE]; exact f1.st (by decide)
  have f2 : WQ m3 B n z (gTk (kG B n z) 24 (gTk (kG B n z) 23 (0, p))) (wq (99 < (vG B n z (p + 1))) 5 (p + 1) (wq (seen D (tL B n p)) 3 p w)) := by rw [← hmE]; exact f2.st (by decide)
  clear hmE
  refine go_aload_n (q := 0) (i := 0) rfl rfl dX12_tellHolding_35 ?_
  refine go_getR lf12_64 rfl hx.o hx.r29 dX12_tellHolding_36 ?_
  refine go_iload_n (q := 1) (i := 1) rfl rfl dX12_tellHolding_39 ?_
  refine go_aload_n (q := 0) (i := 0) rfl rfl dX12_tellHolding_40 ?_
  refine go_iconst (v := nI 0) (by decide) dX12_tellHolding_41 ?_
  refine go_sipush (v := nI 999) (by decide) dX12_tellHolding_42 ?_
  refine go_callV okmX12_bounded lmX12_292 ⟨nle rfl, nle rfl⟩ hx.o ⟨by decide, rfl⟩ (ex_bounded (w := wq (99 < (vG B n z (p + 1))) 5 (p + 1) (wq (seen D (tL B n p)) 3 p w)) hx hT f1 f2 hpu hn hV (a := 0) (b := 999) (by omega) (by omega) (fun q => by rw [show (gTk (kG B n z) 24 (gTk (kG B n z) 23 (0, p))).2 = (p + 2) from ((gT_n q).trans (congrArg (fun x => x + 1) (gT_n (gTk_s q))))]; exact Wo.lt (wq_lt (wq_lt hw0)))) npmX12_bounded rfl (nle rfl) ⟨nle rfl, nle rfl⟩ dX12_tellHolding_45 ?_
  rintro _ m4 ⟨⟨v2, rfl, hv2⟩, f1, f2, c1⟩
  have fm := fm.tr (FW.fv (sd := sd) c1)
  have hx := FW.wf c1 hx
  have hT := FW.tk c1 hT
  have E0 : ∀ x, x ≠ 274 → x ≠ 288 → x ≠ 289 → x ≠ 290 → gI m4 x = gI m x := fun x q0 q288 q289 q290 => ((c1).1.at q0).trans (E0 x q0 q288 q289 q290)
  have J0 : ∀ x, gJ m4 x = gJ m x := fun x => ((c1).1.aj (fun a => a)).trans (J0 x)
  have F0 : ∀ k, k ≠ 11 → k ≠ 13 → k ≠ 14 → k ≠ 15 → k ≠ 16 → gI m4 274 k = gI m 274 k := fun k a b d e f => ((c1).2 k a b d e f).trans (F0 k a b d e f)
  have R288 := ((c1).1.at (x := 288) (by decide)).trans R288
  have R289 := ((c1).1.at (x := 289) (by decide)).trans R289
  have R290 := ((c1).1.at (x := 290) (by decide)).trans R290
  have f2 : WQ m4 B n z (gTk (kG B n z) 24 (gTk (kG B n z) 24 (gTk (kG B n z) 23 (0, p)))) (wq (999 < (vG B n z (p + 2))) 5 (p + 2) (wq (99 < (vG B n z (p + 1))) 5 (p + 1) (wq (seen D (tL B n p)) 3 p w))) := f2.e (fun q => by rw [show (gTk (kG B n z) 24 (gTk (kG B n z) 23 (0, p))).2 = (p + 2) from (fun q => ((gT_n q).trans (congrArg (fun x => x + 1) (gT_n (gTk_s q))))) (gTk_s q)]; first | done | exact wq_e (by omega))
  have hv2 : (gTk (kG B n z) 24 (gTk (kG B n z) 24 (gTk (kG B n z) 23 (0, p)))).1 = 0 → v2 = nI (vG B n z (p + 2)) := fun q => by rw [hv2 q, show (gTk (kG B n z) 24 (gTk (kG B n z) 23 (0, p))).2 = (p + 2) from (fun q => ((gT_n q).trans (congrArg (fun x => x + 1) (gT_n (gTk_s q))))) (gTk_s q)]
  refine go_c1 ?_
  refine go_iast (j := ((4 * sd) + (D.n 2))) hx.i29 (by omega) (by first | decide | omega) rfl dX12_tellHolding_48 ?_
  generalize hmE : sI m4 290 (upd (gI m4 290) (4 * sd + D.n 2) (v2)) = m5
  have fm : FV sd m m5 := by rw [← hmE]; exact fm.up (by decide) (SD.of (b := 4) (i := D.n 2) rfl rfl (by omega))
  have hx : Wf12 m5.1 (gR m5) := by rw [← hmE]; exact hx
  have hT : TkR m5 B n z := by rw [← hmE]; exact hT.st (by decide)
  have E0 : ∀ x, x ≠ 274 → x ≠ 288 → x ≠ 289 → x ≠ 290 → gI m5 x = gI m x := fun x q0 q288 q289 q290 => by rw [← hmE, gI_n q290]; exact E0 x q0 q288 q289 q290
  have J0 : ∀ x, gJ m5 x = gJ m x := fun x => by rw [← hmE, gJ_I]; exact J0 x
  have F0 : ∀ k, k ≠ 11 → k ≠ 13 → k ≠ 14 → k ≠ 15 → k ≠ 16 → gI m5 274 k = gI m 274 k := fun k a b d e f => by rw [← hmE, gI_n (by decide)]; exact F0 k a b d e f
  have R288 := (show gI m5 288 = _ by rw [← hmE, gI_n (by decide), R288])
  have R289 := (show gI m5 289 = _ by rw [← hmE, gI_n (by decide), R289])
  have R290 := (show gI m5 290 = _ by rw [← hmE, gI_s, R290])
  have f1 : GM m5 B n z (gTk (kG B n z) 24 (gTk (kG B n z) 24 (gTk (kG B n z) 23 (0, p)))) := by rw [← hmE]; exact f1.st (by decide)
  have f2 : WQ m5 B n z (gTk (kG B n z) 24 (gTk (kG B n z) 24 (gTk (kG B n z) 23 (0, p)))) (wq (999 < (vG B n z (p + 2))) 5 (p + 2) (wq (99 < (vG B n z (p + 1))) 5 (p + 1) (wq (seen D (tL B n p)) 3 p w))) := by rw [← hmE]; exact f2.st (by decide)
  clear hmE
  refine go_aload_n (q := 0) (i := 0) rfl rfl dX12_tellHolding_49 ?_
  refine go_iload_n (q := 2) (i := 2) rfl rfl dX12_tellHolding_50 ?_
  refine go_aload_n (q := 0) (i := 0) rfl rfl dX12_tellHolding_51 ?_
  refine go_getR lf12_58 rfl hx.o hx.r27 dX12_tellHolding_52 ?_
  refine go_aload_n (q := 0) (i := 0) rfl rfl dX12_tellHolding_55 ?_
  refine go_getI lf12_263 rfl hx.o dX12_tellHolding_56 ?_
  rw [show gI _ 274 19 = nI sd from (F0 19 (by decide) (by decide) (by decide) (by decide) (by decide)).trans hsd]
  refine go_iald (j := sd) hx.i27 (by omega) (by first | decide | omega) rfl dX12_tellHolding_59 ?_
  rw [R288, hU.1.2.2.1]
  refine go_callV okmX12_ends lmX12_332 ⟨nle rfl, nle rfl⟩ hx.o ⟨by decide, rfl⟩ (ex_ends (N := D.n 2 + D.n 3) (v := nI (D.n 2)) hx hT f1 ((F0 20 (by decide) (by decide) (by decide) (by decide) (by decide)).trans hU.2.2.2.2.2) (by omega) (t := a) haz) npmX12_ends rfl (nle rfl) ⟨nle rfl, nle rfl⟩ dX12_tellHolding_60 ?_
  rintro _ m6 ⟨rfl, f1', c1, ce⟩
  have hx := c1.wf hx
  have hT := c1.tk hT
  have f2' := f2
  have f1 := f1'
  have h9 := f1.2.2.2.1
  have fm := fm.tr (FN.fv (sd := sd) c1)
  refine go_c0 ?_
  refine go_aload_n (q := 0) (i := 0) rfl rfl dX12_tellHolding_63 ?_
  refine go_getI lf12_230 rfl hx.o dX12_tellHolding_64 ?_
  rw [f1.1]
  refine gz_ne (by omega) (tgt := 83) dX12_tellHolding_67 (by decide) (fun h67 => ?_) (fun h67 => ?_)
  · skip
    refine go_vret rfl ⟨Nat.zero_le _, Nat.zero_le _⟩ dX12_tellHolding_83 ?_
    have hne : (gTk (kG B n z) 25 (gTk (kG B n z) 24 (gTk (kG B n z) 24 (gTk (kG B n z) 23 (0, p))))).1 ≠ 0 := by omega
    exact ⟨rfl, f1, fun q => absurd q hne, fm, fun q => absurd q hne⟩
  · skip
    refine go_aload_n (q := 0) (i := 0) rfl rfl dX12_tellHolding_70 ?_
    refine go_getR lf12_58 rfl hx.o hx.r27 dX12_tellHolding_71 ?_
    refine go_aload_n (q := 0) (i := 0) rfl rfl dX12_tellHolding_74 ?_
    refine go_getI lf12_263 rfl hx.o dX12_tellHolding_75 ?_
    rw [c1.2 19 (by decide) (by decide) (by decide) (by decide), show gI _ 274 19 = nI sd from (F0 19 (by decide) (by decide) (by decide) (by decide) (by decide)).trans hsd]
    refine go_dup2 rfl rfl dX12_tellHolding_78 ?_
    refine go_iald (j := sd) hx.i27 (by omega) (by first | decide | omega) rfl dX12_tellHolding_79 ?_
    rw [c1.1.at (by decide), R288, hU.1.2.2.1]
    refine go_iconst (v := nI 1) (by decide) dX12_tellHolding_80 ?_
    refine gn_add dX12_tellHolding_81 ?_
    refine go_iast (j := sd) hx.i27 (by omega) (by first | decide | omega) rfl dX12_tellHolding_82 ?_
    refine go_vret rfl ⟨Nat.zero_le _, Nat.zero_le _⟩ dX12_tellHolding_83 ?_
    have hz4 : (gTk (kG B n z) 25 (gTk (kG B n z) 24 (gTk (kG B n z) 24 (gTk (kG B n z) 23 (0, p))))).1 = 0 := by omega
    have hz3 := gTk_s hz4
    have hz2 := gTk_s hz3
    have hz1 := gTk_s hz2
    have hk1 : kG B n z p = 23 := (gTk_z hz1).2.1
    obtain ⟨e1, e2, e3⟩ := ce hz4
    rw [J0] at e1
    have h83 : gI m5 283 = gI m 283 := E0 283 (by decide) (by decide) (by decide) (by decide)
    rw [h83] at e2
    have hnk : gJ m 280 a = lN (nkM (tL B n p)) := by
      rw [has]
      exact (hT0.2.2.2 p hpz).2.2.2 (by unfold kG at hk1; rw [if_pos hpz] at hk1; omega)
    rw [J0, hnk] at e1
    rw [hv1 hz2] at R289
    rw [hv2 hz3] at R290
    have RR := Rd.ho (m' := sI m6 288 (upd (gI m6 288) sd (nI (D.n 2 + 1)))) hU ⟨by omega, by omega⟩ (fun x a1 a2 a3 a4 a5 => by rw [gI_n a3, c1.1.at (by omega)]; exact E0 x a1 a3 a4 a5) (by rw [gI_s, c1.1.at (by decide), R288]) (by rw [gI_n (by decide), c1.1.at (by decide)]; exact R289) (by rw [gI_n (by decide), c1.1.at (by decide)]; exact R290) (by rw [gI_n (by decide)]; exact e3) (by rw [gJ_I]; exact e1) (by rw [gI_n (by decide)]; exact e2)
    refine ⟨rfl, f1.st (by decide), ?_, fm.up (by decide) (SD.at rfl), fun _ => ⟨RR.1, fun z0 => RR.2 (hC (wq_z (by decide) (wq_z (by decide) (wq_z (by decide) z0).2).2).2).1⟩⟩
    refine WQ.st (fun q => ?_) (by decide)
    rw [c1.2 15 (by decide) (by decide) (by decide) (by decide), c1.2 16 (by decide) (by decide) (by decide) (by decide)]
    exact f2 hz3
set_option maxRecDepth 100000 in
set_option maxHeartbeats 8000000 in
theorem ex_tellBank {m : Me} {B : Nat → Nat} {n z sd p : Nat} {w : Nat × Nat} {D : Dr} {c : Nat → Nat} (hx : Wf12 m.1 (gR m)) (hT : TkR m B n z) (h : GM m B n z (0, p)) (hq : WQ m B n z (0, p) w) (hpu : PuG B n z) (hn : n ≤ 2000) (hV : ∀ j, kG B n z j = 24 → vG B n z j < 65536) (hnm : ∀ j, kG B n z j = 23 → NmO (tL B n j)) (hsd : gI m 274 19 = nI sd) (hs2 : sd < 2) (hU : RdU m sd D) (hC : w.1 = 0 → RdC m sd D ∧ DrO D ∧ NmD D) (hcn : CnW c D) (hw0 : w.1 ≠ 0 → w.2 < p) (h12 : D.n 4 < 12) : Ev mX12_tellBank [.ref 274] m (fun o m' => o = none ∧ GM m' B n z (gTk (kG B n z) 25 (gTk (kG B n z) 24 (gTk (kG B n z) 24 (gTk (kG B n z) 24 (0, p))))) ∧ WQ m' B n z (gTk (kG B n z) 25 (gTk (kG B n z) 24 (gTk (kG B n z) 24 (gTk (kG B n z) 24 (0, p))))) (wq (99 < (vG B n z (p + 2))) 5 (p + 2) (wq (4 < (vG B n z (p + 1))) 5 (p + 1) (wq (7 < (vG B n z p)) 5 p w))) ∧ FV sd m m' ∧ ((gTk (kG B n z) 25 (gTk (kG B n z) 24 (gTk (kG B n z) 24 (gTk (kG B n z) 24 (0, p))))).1 = 0 → RdU m' sd (bkD D (vG B n z p) (vG B n z (p + 1)) (vG B n z (p + 2))) ∧ ((wq (99 < (vG B n z (p + 2))) 5 (p + 2) (wq (4 < (vG B n z (p + 1))) 5 (p + 1) (wq (7 < (vG B n z p)) 5 p w))).1 = 0 → RdC m' sd (bkD D (vG B n z p) (vG B n z (p + 1)) (vG B n z (p + 2)))))) := by
  refine ⟨plmX12_tellBank, nle rfl, ?_⟩
  obtain ⟨x0, x1, x2, x3, x4, y0, y1, y2, y3⟩ := id hcn
  have hz := hT.2.1
  have hpz : p < z := h.2.2.2.2.1
  have hNm : w.1 = 0 → NmM m D ∧ NoD D := fun q => ⟨(hC q).1.2.2, (hC q).2.1.2.2.2.2.2.2.2.2.2.1, (hC q).2.1.2.2.2.2.2.2.2.2.2.2⟩
  have hMd : w.1 = 0 → NmD D := fun q => (hC q).2.2
  have f1 := h
  have f2 := hq
  have E0 : ∀ x, x ≠ 274 → x ≠ 296 → x ≠ 297 → x ≠ 298 → x ≠ 299 → gI m x = gI m x := fun x q0 q296 q297 q298 q299 => rfl
  have J0 : ∀ x, gJ m x = gJ m x := fun x => rfl
  have F0 : ∀ k, k ≠ 11 → k ≠ 13 → k ≠ 14 → k ≠ 15 → k ≠ 16 → gI m 274 k = gI m 274 k := fun k _ _ _ _ _ => rfl
  have fm : FV sd m m := FV.rf
  have R296 : gI m 296 = gI m 296 := rfl
  have R297 : gI m 297 = gI m 297 := rfl
  have R298 : gI m 298 = gI m 298 := rfl
  have R299 : gI m 299 = gI m 299 := rfl
  refine go_bipush (v := nI 12) (by decide) dX12_tellBank_0 ?_
  refine go_aload_n (q := 0) (i := 0) rfl rfl dX12_tellBank_2 ?_
  refine go_getI lf12_263 rfl hx.o dX12_tellBank_3 ?_
  rw [show gI _ 274 19 = nI sd from (F0 19 (by decide) (by decide) (by decide) (by decide) (by decide)).trans hsd]
  refine gn_mul dX12_tellBank_6 ?_
  refine go_aload_n (q := 0) (i := 0) rfl rfl dX12_tellBank_7 ?_
  refine go_getR lf12_82 rfl hx.o hx.r35 dX12_tellBank_8 ?_
  refine go_aload_n (q := 0) (i := 0) rfl rfl dX12_tellBank_11 ?_
  refine go_getI lf12_263 rfl hx.o dX12_tellBank_12 ?_
  rw [show gI _ 274 19 = nI sd from (F0 19 (by decide) (by decide) (by decide) (by decide) (by decide)).trans hsd]
  refine go_iald (j := sd) hx.i35 (by omega) (by first | decide | omega) rfl dX12_tellBank_15 ?_
  rw [hU.1.2.2.2.2]
  refine gn_add dX12_tellBank_16 ?_
  refine go_istore_n (q := 1) (i := 1) rfl dX12_tellBank_17 (nle rfl) (nle rfl) ?_
  refine go_aload_n (q := 0) (i := 0) rfl rfl dX12_tellBank_18 ?_
  refine go_getR lf12_85 rfl hx.o hx.r36 dX12_tellBank_19 ?_
  refine go_iload_n (q := 1) (i := 1) rfl rfl dX12_tellBank_22 ?_
  refine go_aload_n (q := 0) (i := 0) rfl rfl dX12_tellBank_23 ?_
  refine go_iconst (v := nI 0) (by decide) dX12_tellBank_24 ?_
  refine go_bipush (v := nI 7) (by decide) dX12_tellBank_25 ?_
  refine go_callV okmX12_bounded lmX12_292 ⟨nle rfl, nle rfl⟩ hx.o ⟨by decide, rfl⟩ (ex_bounded (w := w) hx hT f1 f2 hpu hn hV (a := 0) (b := 7) (by omega) (by omega) (fun q => by rw [show (0, p).2 = p from rfl]; exact Wo.lt (hw0))) npmX12_bounded rfl (nle rfl) ⟨nle rfl, nle rfl⟩ dX12_tellBank_27 ?_
  rintro _ m1 ⟨⟨v1, rfl, hv1⟩, f1, f2, c1⟩
  have fm := fm.tr (FW.fv (sd := sd) c1)
  have hx := FW.wf c1 hx
  have hT := FW.tk c1 hT
  have E0 : ∀ x, x ≠ 274 → x ≠ 296 → x ≠ 297 → x ≠ 298 → x ≠ 299 → gI m1 x = gI m x := fun x q0 q296 q297 q298 q299 => ((c1).1.at q0).trans (E0 x q0 q296 q297 q298 q299)
  have J0 : ∀ x, gJ m1 x = gJ m x := fun x => ((c1).1.aj (fun a => a)).trans (J0 x)
  have F0 : ∀ k, k ≠ 11 → k ≠ 13 → k ≠ 14 → k ≠ 15 → k ≠ 16 → gI m1 274 k = gI m 274 k := fun k a b d e f => ((c1).2 k a b d e f).trans (F0 k a b d e f)
  have R296 := ((c1).1.at (x := 296) (by decide)).trans R296
  have R297 := ((c1).1.at (x := 297) (by decide)).trans R297
  have R298 := ((c1).1.at (x := 298) (by decide)).trans R298
  have R299 := ((c1).1.at (x := 299) (by decide)).trans R299
  have f2 : WQ m1 B n z (gTk (kG B n z) 24 (0, p)) (wq (7 < (vG B n z p)) 5 p w) := f2.e (fun q => by rw [show (0, p).2 = p from (fun q => rfl) (gTk_s q)]; first | done | exact wq_e (by omega))
  have hv1 : (gTk (kG B n z) 24 (0, p)).1 = 0 → v1 = nI (vG B n z p) := fun q => by rw [hv1 q, show (0, p).2 = p from (fun q => rfl) (gTk_s q)]
  refine go_c1 ?_
  refine go_iast (j := ((12 * sd) + (D.n 4))) hx.i36 (by omega) (by first | decide | omega) rfl dX12_tellBank_30 ?_
  generalize hmE : sI m1 297 (upd (gI m1 297) (12 * sd + D.n 4) (v1)) = m2
  have fm : FV sd m m2 := by rw [← hmE]; exact fm.up (by decide) (SD.of (b := 12) (i := D.n 4) rfl rfl (by omega))
  have hx : Wf12 m2.1 (gR m2) := by rw [← hmE]; exact hx
  have hT : TkR m2 B n z := by rw [← hmE]; exact hT.st (by decide)
  have E0 : ∀ x, x ≠ 274 → x ≠ 296 → x ≠ 297 → x ≠ 298 → x ≠ 299 → gI m2 x = gI m x := fun x q0 q296 q297 q298 q299 => by rw [← hmE, gI_n q297]; exact E0 x q0 q296 q297 q298 q299
  have J0 : ∀ x, gJ m2 x = gJ m x := fun x => by rw [← hmE, gJ_I]; exact J0 x
  have F0 : ∀ k, k ≠ 11 → k ≠ 13 → k ≠ 14 → k ≠ 15 → k ≠ 16 → gI m2 274 k = gI m 274 k := fun k a b d e f => by rw [← hmE, gI_n (by decide)]; exact F0 k a b d e f
  have R296 := (show gI m2 296 = _ by rw [← hmE, gI_n (by decide), R296])
  have R297 := (show gI m2 297 = _ by rw [← hmE, gI_s, R297])
  have R298 := (show gI m2 298 = _ by rw [← hmE, gI_n (by decide), R298])
  have R299 := (show gI m2 299 = _ by rw [← hmE, gI_n (by decide), R299])
  have f1 : GM m2 B n z (gTk (kG B n z) 24 (0, p)) := by rw [← hmE]; exact f1.st (by decide)
  have f2 : WQ m2 B n z (gTk (kG B n z) 24 (0, p)) (wq (7 < (vG B n z p)) 5 p w) := by rw [← hmE]; exact f2.st (by decide)
  clear hmE
  refine go_aload_n (q := 0) (i := 0) rfl rfl dX12_tellBank_31 ?_
  refine go_getR lf12_88 rfl hx.o hx.r37 dX12_tellBank_32 ?_
  refine go_iload_n (q := 1) (i := 1) rfl rfl dX12_tellBank_35 ?_
  refine go_aload_n (q := 0) (i := 0) rfl rfl dX12_tellBank_36 ?_
  refine go_iconst (v := nI 0) (by decide) dX12_tellBank_37 ?_
  refine go_iconst (v := nI 4) (by decide) dX12_tellBank_38 ?_
  refine go_callV okmX12_bounded lmX12_292 ⟨nle rfl, nle rfl⟩ hx.o ⟨by decide, rfl⟩ (ex_bounded (w := wq (7 < (vG B n z p)) 5 p w) hx hT f1 f2 hpu hn hV (a := 0) (b := 4) (by omega) (by omega) (fun q => by rw [show (gTk (kG B n z) 24 (0, p)).2 = (p + 1) from (gT_n q)]; exact Wo.lt (wq_lt hw0))) npmX12_bounded rfl (nle rfl) ⟨nle rfl, nle rfl⟩ dX12_tellBank_39 ?_
  rintro _ m3 ⟨⟨v2, rfl, hv2⟩, f1, f2, c1⟩
  have fm := fm.tr (FW.fv (sd := sd) c1)
  have hx := FW.wf c1 hx
  have hT := FW.tk c1 hT
  have E0 : ∀ x, x ≠ 274 → x ≠ 296 → x ≠ 297 → x ≠ 298 → x ≠ 299 → gI m3 x = gI m x := fun x q0 q296 q297 q298 q299 => ((c1).1.at q0).trans (E0 x q0 q296 q297 q298 q299)
  have J0 : ∀ x, gJ m3 x = gJ m x := fun x => ((c1).1.aj (fun a => a)).trans (J0 x)
  have F0 : ∀ k, k ≠ 11 → k ≠ 13 → k ≠ 14 → k ≠ 15 → k ≠ 16 → gI m3 274 k = gI m 274 k := fun k a b d e f => ((c1).2 k a b d e f).trans (F0 k a b d e f)
  have R296 := ((c1).1.at (x := 296) (by decide)).trans R296
  have R297 := ((c1).1.at (x := 297) (by decide)).trans R297
  have R298 := ((c1).1.at (x := 298) (by decide)).trans R298
  have R299 := ((c1).1.at (x := 299) (by decide)).trans R299
  have f2 : WQ m3 B n z (gTk (kG B n z) 24 (gTk (kG B n z) 24 (0, p))) (wq (4 < (vG B n z (p + 1))) 5 (p + 1) (wq (7 < (vG B n z p)) 5 p w)) := f2.e (fun q => by rw [show (gTk (kG B n z) 24 (0, p)).2 = (p + 1) from (fun q => (gT_n q)) (gTk_s q)]; first | done | exact wq_e (by omega))
  have hv2 : (gTk (kG B n z) 24 (gTk (kG B n z) 24 (0, p))).1 = 0 → v2 = nI (vG B n z (p + 1)) := fun q => by rw [hv2 q, show (gTk (kG B n z) 24 (0, p)).2 = (p + 1) from (fun q => (gT_n q)) (gTk_s q)]
  refine go_c1 ?_
  refine go_iast (j := ((12 * sd) + (D.n 4))) hx.i37 (by omega) (by first | decide | omega) rfl dX12_tellBank_42 ?_
  generalize hmE : sI m3 298 (upd (gI m3 298) (12 * sd + D.n 4) (v2)) = m4
  have fm : FV sd m m4 := by rw [← hmE]; exact fm.up (by decide) (SD.of (b := 12) (i := D.n 4) rfl rfl (by omega))
  have hx : Wf12 m4.1 (gR m4) := by rw [← hmE]; exact hx
  have hT : TkR m4 B n z := by rw [← hmE]; exact hT.st (by decide)
  have E0 : ∀ x, x ≠ 274 → x ≠ 296 → x ≠ 297 → x ≠ 298 → x ≠ 299 → gI m4 x = gI m x := fun x q0 q296 q297 q298 q299 => by rw [← hmE, gI_n q298]; exact E0 x q0 q296 q297 q298 q299
  have J0 : ∀ x, gJ m4 x = gJ m x := fun x => by rw [← hmE, gJ_I]; exact J0 x
  have F0 : ∀ k, k ≠ 11 → k ≠ 13 → k ≠ 14 → k ≠ 15 → k ≠ 16 → gI m4 274 k = gI m 274 k := fun k a b d e f => by rw [← hmE, gI_n (by decide)]; exact F0 k a b d e f
  have R296 := (show gI m4 296 = _ by rw [← hmE, gI_n (by decide), R296])
  have R297 := (show gI m4 297 = _ by rw [← hmE, gI_n (by decide), R297])
  have R298 := (show gI m4 298 = _ by rw [← hmE, gI_s, R298])
  have R299 := (show gI m4 299 = _ by rw [← hmE, gI_n (by decide), R299])
  have f1 : GM m4 B n z (gTk (kG B n z) 24 (gTk (kG B n z) 24 (0, p))) := by rw [← hmE]; exact f1.st (by decide)
  have f2 : WQ m4 B n z (gTk (kG B n z) 24 (gTk (kG B n z) 24 (0, p))) (wq (4 < (vG B n z (p + 1))) 5 (p + 1) (wq (7 < (vG B n z p)) 5 p w)) := by rw [← hmE]; exact f2.st (by decide)
  clear hmE
  refine go_aload_n (q := 0) (i := 0) rfl rfl dX12_tellBank_43 ?_
  refine go_getR lf12_91 rfl hx.o hx.r38 dX12_tellBank_44 ?_
  refine go_iload_n (q := 1) (i := 1) rfl rfl dX12_tellBank_47 ?_
  refine go_aload_n (q := 0) (i := 0) rfl rfl dX12_tellBank_48 ?_
  refine go_iconst (v := nI 0) (by decide) dX12_tellBank_49 ?_
  refine go_bipush (v := nI 99) (by decide) dX12_tellBank_50 ?_
  refine go_callV okmX12_bounded lmX12_292 ⟨nle rfl, nle rfl⟩ hx.o ⟨by decide, rfl⟩ (ex_bounded (w := wq (4 < (vG B n z (p + 1))) 5 (p + 1) (wq (7 < (vG B n z p)) 5 p w)) hx hT f1 f2 hpu hn hV (a := 0) (b := 99) (by omega) (by omega) (fun q => by rw [show (gTk (kG B n z) 24 (gTk (kG B n z) 24 (0, p))).2 = (p + 2) from ((gT_n q).trans (congrArg (fun x => x + 1) (gT_n (gTk_s q))))]; exact Wo.lt (wq_lt (wq_lt hw0)))) npmX12_bounded rfl (nle rfl) ⟨nle rfl, nle rfl⟩ dX12_tellBank_52 ?_
  rintro _ m5 ⟨⟨v3, rfl, hv3⟩, f1, f2, c1⟩
  have fm := fm.tr (FW.fv (sd := sd) c1)
  have hx := FW.wf c1 hx
  have hT := FW.tk c1 hT
  have E0 : ∀ x, x ≠ 274 → x ≠ 296 → x ≠ 297 → x ≠ 298 → x ≠ 299 → gI m5 x = gI m x := fun x q0 q296 q297 q298 q299 => ((c1).1.at q0).trans (E0 x q0 q296 q297 q298 q299)
  have J0 : ∀ x, gJ m5 x = gJ m x := fun x => ((c1).1.aj (fun a => a)).trans (J0 x)
  have F0 : ∀ k, k ≠ 11 → k ≠ 13 → k ≠ 14 → k ≠ 15 → k ≠ 16 → gI m5 274 k = gI m 274 k := fun k a b d e f => ((c1).2 k a b d e f).trans (F0 k a b d e f)
  have R296 := ((c1).1.at (x := 296) (by decide)).trans R296
  have R297 := ((c1).1.at (x := 297) (by decide)).trans R297
  have R298 := ((c1).1.at (x := 298) (by decide)).trans R298
  have R299 := ((c1).1.at (x := 299) (by decide)).trans R299
  have f2 : WQ m5 B n z (gTk (kG B n z) 24 (gTk (kG B n z) 24 (gTk (kG B n z) 24 (0, p)))) (wq (99 < (vG B n z (p + 2))) 5 (p + 2) (wq (4 < (vG B n z (p + 1))) 5 (p + 1) (wq (7 < (vG B n z p)) 5 p w))) := f2.e (fun q => by rw [show (gTk (kG B n z) 24 (gTk (kG B n z) 24 (0, p))).2 = (p + 2) from (fun q => ((gT_n q).trans (congrArg (fun x => x + 1) (gT_n (gTk_s q))))) (gTk_s q)]; first | done | exact wq_e (by omega))
  have hv3 : (gTk (kG B n z) 24 (gTk (kG B n z) 24 (gTk (kG B n z) 24 (0, p)))).1 = 0 → v3 = nI (vG B n z (p + 2)) := fun q => by rw [hv3 q, show (gTk (kG B n z) 24 (gTk (kG B n z) 24 (0, p))).2 = (p + 2) from (fun q => ((gT_n q).trans (congrArg (fun x => x + 1) (gT_n (gTk_s q))))) (gTk_s q)]
  refine go_c1 ?_
  refine go_iast (j := ((12 * sd) + (D.n 4))) hx.i38 (by omega) (by first | decide | omega) rfl dX12_tellBank_55 ?_
  generalize hmE : sI m5 299 (upd (gI m5 299) (12 * sd + D.n 4) (v3)) = m6
  have fm : FV sd m m6 := by rw [← hmE]; exact fm.up (by decide) (SD.of (b := 12) (i := D.n 4) rfl rfl (by omega))
  have hx : Wf12 m6.1 (gR m6) := by rw [← hmE]; exact hx
  have hT : TkR m6 B n z := by rw [← hmE]; exact hT.st (by decide)
  have E0 : ∀ x, x ≠ 274 → x ≠ 296 → x ≠ 297 → x ≠ 298 → x ≠ 299 → gI m6 x = gI m x := fun x q0 q296 q297 q298 q299 => by rw [← hmE, gI_n q299]; exact E0 x q0 q296 q297 q298 q299
  have J0 : ∀ x, gJ m6 x = gJ m x := fun x => by rw [← hmE, gJ_I]; exact J0 x
  have F0 : ∀ k, k ≠ 11 → k ≠ 13 → k ≠ 14 → k ≠ 15 → k ≠ 16 → gI m6 274 k = gI m 274 k := fun k a b d e f => by rw [← hmE, gI_n (by decide)]; exact F0 k a b d e f
  have R296 := (show gI m6 296 = _ by rw [← hmE, gI_n (by decide), R296])
  have R297 := (show gI m6 297 = _ by rw [← hmE, gI_n (by decide), R297])
  have R298 := (show gI m6 298 = _ by rw [← hmE, gI_n (by decide), R298])
  have R299 := (show gI m6 299 = _ by rw [← hmE, gI_s, R299])
  have f1 : GM m6 B n z (gTk (kG B n z) 24 (gTk (kG B n z) 24 (gTk (kG B n z) 24 (0, p)))) := by rw [← hmE]; exact f1.st (by decide)
  have f2 : WQ m6 B n z (gTk (kG B n z) 24 (gTk (kG B n z) 24 (gTk (kG B n z) 24 (0, p)))) (wq (99 < (vG B n z (p + 2))) 5 (p + 2) (wq (4 < (vG B n z (p + 1))) 5 (p + 1) (wq (7 < (vG B n z p)) 5 p w))) := by rw [← hmE]; exact f2.st (by decide)
  clear hmE
  refine go_aload_n (q := 0) (i := 0) rfl rfl dX12_tellBank_56 ?_
  refine go_iconst (v := nI 4) (by decide) dX12_tellBank_57 ?_
  refine go_callV okmX12_must lmX12_296 ⟨nle rfl, nle rfl⟩ hx.o ⟨by decide, rfl⟩ (ex_must hx hT f1 (k := 25) (by decide)) npmX12_must rfl (nle rfl) ⟨nle rfl, nle rfl⟩ dX12_tellBank_58 ?_
  rintro _ m7 ⟨rfl, f1, c0⟩
  have c1 := c0.fw
  have fm := fm.tr (FW.fv (sd := sd) c1)
  have hx := FW.wf c1 hx
  have hT := FW.tk c1 hT
  have E0 : ∀ x, x ≠ 274 → x ≠ 296 → x ≠ 297 → x ≠ 298 → x ≠ 299 → gI m7 x = gI m x := fun x q0 q296 q297 q298 q299 => ((c1).1.at q0).trans (E0 x q0 q296 q297 q298 q299)
  have J0 : ∀ x, gJ m7 x = gJ m x := fun x => ((c1).1.aj (fun a => a)).trans (J0 x)
  have F0 : ∀ k, k ≠ 11 → k ≠ 13 → k ≠ 14 → k ≠ 15 → k ≠ 16 → gI m7 274 k = gI m 274 k := fun k a b d e f => ((c1).2 k a b d e f).trans (F0 k a b d e f)
  have R296 := ((c1).1.at (x := 296) (by decide)).trans R296
  have R297 := ((c1).1.at (x := 297) (by decide)).trans R297
  have R298 := ((c1).1.at (x := 298) (by decide)).trans R298
  have R299 := ((c1).1.at (x := 299) (by decide)).trans R299
  have f2 : WQ m7 B n z (gTk (kG B n z) 25 (gTk (kG B n z) 24 (gTk (kG B n z) 24 (gTk (kG B n z) 24 (0, p))))) (wq (99 < (vG B n z (p + 2))) 5 (p + 2) (wq (4 < (vG B n z (p + 1))) 5 (p + 1) (wq (7 < (vG B n z p)) 5 p w))) := f2.fq c0 gTk_s
  have h9 := f1.2.2.2.1
  refine go_c0 ?_
  refine go_aload_n (q := 0) (i := 0) rfl rfl dX12_tellBank_61 ?_
  refine go_getI lf12_230 rfl hx.o dX12_tellBank_62 ?_
  rw [f1.1]
  refine gz_ne (by omega) (tgt := 81) dX12_tellBank_65 (by decide) (fun h65 => ?_) (fun h65 => ?_)
  · skip
    refine go_vret rfl ⟨Nat.zero_le _, Nat.zero_le _⟩ dX12_tellBank_81 ?_
    have hne : (gTk (kG B n z) 25 (gTk (kG B n z) 24 (gTk (kG B n z) 24 (gTk (kG B n z) 24 (0, p))))).1 ≠ 0 := by omega
    exact ⟨rfl, f1, fun q => absurd q hne, fm, fun q => absurd q hne⟩
  · skip
    refine go_aload_n (q := 0) (i := 0) rfl rfl dX12_tellBank_68 ?_
    refine go_getR lf12_82 rfl hx.o hx.r35 dX12_tellBank_69 ?_
    refine go_aload_n (q := 0) (i := 0) rfl rfl dX12_tellBank_72 ?_
    refine go_getI lf12_263 rfl hx.o dX12_tellBank_73 ?_
    rw [show gI _ 274 19 = nI sd from (F0 19 (by decide) (by decide) (by decide) (by decide) (by decide)).trans hsd]
    refine go_dup2 rfl rfl dX12_tellBank_76 ?_
    refine go_iald (j := sd) hx.i35 (by omega) (by first | decide | omega) rfl dX12_tellBank_77 ?_
    rw [R296, hU.1.2.2.2.2]
    refine go_iconst (v := nI 1) (by decide) dX12_tellBank_78 ?_
    refine gn_add dX12_tellBank_79 ?_
    refine go_iast (j := sd) hx.i35 (by omega) (by first | decide | omega) rfl dX12_tellBank_80 ?_
    refine go_vret rfl ⟨Nat.zero_le _, Nat.zero_le _⟩ dX12_tellBank_81 ?_
    have hz4 : (gTk (kG B n z) 25 (gTk (kG B n z) 24 (gTk (kG B n z) 24 (gTk (kG B n z) 24 (0, p))))).1 = 0 := by omega
    have hz3 := gTk_s hz4
    have hz2 := gTk_s hz3
    have hz1 := gTk_s hz2
    rw [hv1 hz1] at R297
    rw [hv2 hz2] at R298
    rw [hv3 hz3] at R299
    have RR := Rd.ba (m' := sI m7 296 (upd (gI m7 296) sd (nI (D.n 4 + 1)))) hU (fun x a1 a2 a3 a4 a5 => by rw [gI_n a2]; exact E0 x a1 a2 a3 a4 a5) (by rw [gI_s, R296]) (by rw [gI_n (by decide)]; exact R297) (by rw [gI_n (by decide)]; exact R298) (by rw [gI_n (by decide)]; exact R299) (by rw [gI_n (by decide)]; exact F0 20 (by decide) (by decide) (by decide) (by decide) (by decide)) (by rw [gJ_I]; exact J0 282)
    exact ⟨rfl, f1.st (by decide), f2.st (by decide), fm.up (by decide) (SD.at rfl), fun _ => ⟨RR.1, fun z0 => RR.2 (hC (wq_z (by decide) (wq_z (by decide) (wq_z (by decide) z0).2).2).2).1⟩⟩
set_option maxRecDepth 100000 in
set_option maxHeartbeats 8000000 in
theorem ex_toldInt {m : Me} {B : Nat → Nat} {n z p k a b : Nat} {w : Nat × Nat} (hx : Wf12 m.1 (gR m)) (hT : TkR m B n z) (h : GM m B n z (0, p)) (hq : WQ m B n z (0, p) w) (hpu : PuG B n z) (hn : n ≤ 2000) (hV : ∀ j, kG B n z j = 24 → vG B n z j < 65536) (hw0 : w.1 ≠ 0 → w.2 < p) (hk : kG B n z p = k) (hk34 : k < 34) (ha : a < 65536) (hb : b < 65536) : Ev mX12_toldInt [.ref 274, .int (nI a), .int (nI b)] m (fun o m' => (∃ v, o = some (.int v) ∧ ((gTk (kG B n z) 25 (gTk (kG B n z) 24 (gTk (kG B n z) k (0, p)))).1 = 0 → v = nI (vG B n z (p + 1)))) ∧ GM m' B n z (gTk (kG B n z) 25 (gTk (kG B n z) 24 (gTk (kG B n z) k (0, p)))) ∧ WQ m' B n z (gTk (kG B n z) 25 (gTk (kG B n z) 24 (gTk (kG B n z) k (0, p)))) (wq ((vG B n z (p + 1)) < a ∨ b < (vG B n z (p + 1))) 5 (p + 1) w) ∧ FW m m') := by
  refine ⟨plmX12_toldInt, nle rfl, ?_⟩
  have hz := hT.2.1
  have hpz : p < z := h.2.2.2.2.1
  refine go_aload_n (q := 0) (i := 0) rfl rfl dX12_toldInt_0 ?_
  refine go_callV okmX12_goesOn lmX12_251 ⟨nle rfl, nle rfl⟩ hx.o ⟨by decide, rfl⟩ (ex_goesOn hx hT h (fun b hb hm2 => by rw [show b = p from nI_i (hm2.symm.trans (h.2.1 rfl)) (by omega) (by omega), hk]; exact hk34)) npmX12_goesOn rfl (nle rfl) ⟨nle rfl, nle rfl⟩ dX12_toldInt_1 ?_
  rintro _ m1 ⟨rfl, f1, c1⟩
  rw [gGo_t (K := kG B n z) (k := k) (fun _ => hk)] at f1
  have hx := c1.wf hx
  have hT := c1.tk hT
  have f2 := hq.fq c1 (s' := (gTk (kG B n z) k (0, p))) gTk_s
  refine go_c0 ?_
  refine go_aload_n (q := 0) (i := 0) rfl rfl dX12_toldInt_4 ?_
  refine go_iload_n (q := 1) (i := 1) rfl rfl dX12_toldInt_5 ?_
  refine go_iload_n (q := 2) (i := 2) rfl rfl dX12_toldInt_6 ?_
  refine go_callV okmX12_bounded lmX12_292 ⟨nle rfl, nle rfl⟩ hx.o ⟨by decide, rfl⟩ (ex_bounded (w := w) hx hT f1 f2 hpu hn hV (a := a) (b := b) ha hb (fun q => by rw [show (gTk (kG B n z) k (0, p)).2 = p + 1 from (gT_n q)]; exact Wo.lt (fun g => Nat.lt_succ_of_lt (hw0 g)))) npmX12_bounded rfl (nle rfl) ⟨nle rfl, nle rfl⟩ dX12_toldInt_7 ?_
  rintro _ m2 ⟨⟨v, rfl, hv⟩, f1, f2, c2⟩
  have hx := c2.wf hx
  have hT := c2.tk hT
  refine go_c1 ?_
  refine go_istore_n (q := 3) (i := 3) rfl dX12_toldInt_10 (nle rfl) (nle rfl) ?_
  refine go_aload_n (q := 0) (i := 0) rfl rfl dX12_toldInt_11 ?_
  refine go_iconst (v := nI 4) (by decide) dX12_toldInt_12 ?_
  refine go_callV okmX12_must lmX12_296 ⟨nle rfl, nle rfl⟩ hx.o ⟨by decide, rfl⟩ (ex_must hx hT f1 (k := 25) (by decide)) npmX12_must rfl (nle rfl) ⟨nle rfl, nle rfl⟩ dX12_toldInt_13 ?_
  rintro _ m3 ⟨rfl, f1, c3⟩
  refine go_c0 ?_
  refine go_iload_n (q := 3) (i := 3) rfl rfl dX12_toldInt_16 ?_
  refine go_iret rfl ⟨Nat.zero_le _, Nat.zero_le _⟩ dX12_toldInt_17 ?_
  refine ⟨⟨_, rfl, fun q => ?_⟩, f1, (f2.fq c3 gTk_s).e (fun q => ?_), c1.fw.tr (c2.tr c3.fw)⟩
  · rw [hv (gTk_s q), show (gTk (kG B n z) k (0, p)).2 = p + 1 from (fun q => (gT_n q)) (gTk_s (gTk_s q))]
  · rw [show (gTk (kG B n z) k (0, p)).2 = p + 1 from (fun q => (gT_n q)) (gTk_s (gTk_s q))]
set_option maxRecDepth 100000 in
set_option maxHeartbeats 8000000 in
theorem ex_tellUse {m : Me} {B : Nat → Nat} {n z sd p : Nat} {w : Nat × Nat} {D : Dr} {c : Nat → Nat} (hx : Wf12 m.1 (gR m)) (hT : TkR m B n z) (h : GM m B n z (0, p)) (hq : WQ m B n z (0, p) w) (hpu : PuG B n z) (hn : n ≤ 2000) (hV : ∀ j, kG B n z j = 24 → vG B n z j < 65536) (hnm : ∀ j, kG B n z j = 23 → NmO (tL B n j)) (hsd : gI m 274 19 = nI sd) (hs2 : sd < 2) (hU : RdU m sd D) (hC : w.1 = 0 → RdC m sd D ∧ DrO D ∧ NmD D) (hcn : CnW c D) (hw0 : w.1 ≠ 0 → w.2 < p) (h6 : D.n 3 < 6) : Ev mX12_tellUse [.ref 274] m (fun o m' => o = none ∧ GM m' B n z (gTk (kG B n z) 25 (gTk (kG B n z) 24 (gTk (kG B n z) 24 (gTk (kG B n z) 24 (gTk (kG B n z) 23 (gTk (kG B n z) 23 (0, p))))))) ∧ WQ m' B n z (gTk (kG B n z) 25 (gTk (kG B n z) 24 (gTk (kG B n z) 24 (gTk (kG B n z) 24 (gTk (kG B n z) 23 (gTk (kG B n z) 23 (0, p))))))) (wq ((vG B n z (p + 4)) < 1 ∨ 99 < (vG B n z (p + 4))) 5 (p + 4) (wq ((vG B n z (p + 3)) < (vG B n z (p + 2)) ∨ 23 < (vG B n z (p + 3))) 5 (p + 3) (wq (23 < (vG B n z (p + 2))) 5 (p + 2) (wq (¬ fnd D (tL B n (p + 1)) < D.n 2) 4 (p + 1) (wq (seen D (tL B n p)) 3 p w))))) ∧ FV sd m m' ∧ ((gTk (kG B n z) 25 (gTk (kG B n z) 24 (gTk (kG B n z) 24 (gTk (kG B n z) 24 (gTk (kG B n z) 23 (gTk (kG B n z) 23 (0, p))))))).1 = 0 → RdU m' sd (usD D (tL B n p) (tL B n (p + 1)) (vG B n z (p + 2)) (vG B n z (p + 3)) (vG B n z (p + 4))) ∧ ((wq ((vG B n z (p + 4)) < 1 ∨ 99 < (vG B n z (p + 4))) 5 (p + 4) (wq ((vG B n z (p + 3)) < (vG B n z (p + 2)) ∨ 23 < (vG B n z (p + 3))) 5 (p + 3) (wq (23 < (vG B n z (p + 2))) 5 (p + 2) (wq (¬ fnd D (tL B n (p + 1)) < D.n 2) 4 (p + 1) (wq (seen D (tL B n p)) 3 p w))))).1 = 0 → RdC m' sd (usD D (tL B n p) (tL B n (p + 1)) (vG B n z (p + 2)) (vG B n z (p + 3)) (vG B n z (p + 4)))))) := by
  refine ⟨plmX12_tellUse, nle rfl, ?_⟩
  obtain ⟨x0, x1, x2, x3, x4, y0, y1, y2, y3⟩ := id hcn
  have hz := hT.2.1
  have hpz : p < z := h.2.2.2.2.1
  have hNm : w.1 = 0 → NmM m D ∧ NoD D := fun q => ⟨(hC q).1.2.2, (hC q).2.1.2.2.2.2.2.2.2.2.2.1, (hC q).2.1.2.2.2.2.2.2.2.2.2.2⟩
  have hMd : w.1 = 0 → NmD D := fun q => (hC q).2.2
  have hT0 := hT
  have E0 : ∀ x, x ≠ 274 → x ≠ 291 → x ≠ 292 → x ≠ 293 → x ≠ 294 → x ≠ 295 → gI m x = gI m x := fun x q0 q291 q292 q293 q294 q295 => rfl
  have J0 : ∀ x, gJ m x = gJ m x := fun x => rfl
  have F0 : ∀ k, k ≠ 11 → k ≠ 13 → k ≠ 14 → k ≠ 15 → k ≠ 16 → gI m 274 k = gI m 274 k := fun k _ _ _ _ _ => rfl
  have fm : FV sd m m := FV.rf
  have R291 : gI m 291 = gI m 291 := rfl
  have R292 : gI m 292 = gI m 292 := rfl
  have R293 : gI m 293 = gI m 293 := rfl
  have R294 : gI m 294 = gI m 294 := rfl
  have R295 : gI m 295 = gI m 295 := rfl
  refine go_bipush (v := nI 6) (by decide) dX12_tellUse_0 ?_
  refine go_aload_n (q := 0) (i := 0) rfl rfl dX12_tellUse_2 ?_
  refine go_getI lf12_263 rfl hx.o dX12_tellUse_3 ?_
  rw [show gI _ 274 19 = nI sd from (F0 19 (by decide) (by decide) (by decide) (by decide) (by decide)).trans hsd]
  refine gn_mul dX12_tellUse_6 ?_
  refine go_aload_n (q := 0) (i := 0) rfl rfl dX12_tellUse_7 ?_
  refine go_getR lf12_67 rfl hx.o hx.r30 dX12_tellUse_8 ?_
  refine go_aload_n (q := 0) (i := 0) rfl rfl dX12_tellUse_11 ?_
  refine go_getI lf12_263 rfl hx.o dX12_tellUse_12 ?_
  rw [show gI _ 274 19 = nI sd from (F0 19 (by decide) (by decide) (by decide) (by decide) (by decide)).trans hsd]
  refine go_iald (j := sd) hx.i30 (by omega) (by first | decide | omega) rfl dX12_tellUse_15 ?_
  rw [hU.1.2.2.2.1]
  refine gn_add dX12_tellUse_16 ?_
  refine go_istore_n (q := 1) (i := 1) rfl dX12_tellUse_17 (nle rfl) (nle rfl) ?_
  refine go_aload_n (q := 0) (i := 0) rfl rfl dX12_tellUse_18 ?_
  refine go_callV okmX12_named lmX12_328 ⟨nle rfl, nle rfl⟩ hx.o ⟨by decide, rfl⟩ (ex_named hx hT h hq hpu hn hU.2.2.2.2.2 (by omega) hNm (fun q => hnm p q) (fun _ => hw0)) npmX12_named rfl (nle rfl) ⟨nle rfl, nle rfl⟩ dX12_tellUse_19 ?_
  rintro _ m1 ⟨⟨a, haz, rfl, has⟩, f1, f2, c1⟩
  have fm := fm.tr (FW.fv (sd := sd) c1)
  have hx := FW.wf c1 hx
  have hT := FW.tk c1 hT
  have E0 : ∀ x, x ≠ 274 → x ≠ 291 → x ≠ 292 → x ≠ 293 → x ≠ 294 → x ≠ 295 → gI m1 x = gI m x := fun x q0 q291 q292 q293 q294 q295 => ((c1).1.at q0).trans (E0 x q0 q291 q292 q293 q294 q295)
  have J0 : ∀ x, gJ m1 x = gJ m x := fun x => ((c1).1.aj (fun a => a)).trans (J0 x)
  have F0 : ∀ k, k ≠ 11 → k ≠ 13 → k ≠ 14 → k ≠ 15 → k ≠ 16 → gI m1 274 k = gI m 274 k := fun k a b d e f => ((c1).2 k a b d e f).trans (F0 k a b d e f)
  have R291 := ((c1).1.at (x := 291) (by decide)).trans R291
  have R292 := ((c1).1.at (x := 292) (by decide)).trans R292
  have R293 := ((c1).1.at (x := 293) (by decide)).trans R293
  have R294 := ((c1).1.at (x := 294) (by decide)).trans R294
  have R295 := ((c1).1.at (x := 295) (by decide)).trans R295
  have f2 : WQ m1 B n z (gTk (kG B n z) 23 (0, p)) (wq (seen D (tL B n p)) 3 p w) := f2
  have has := has rfl
  refine go_c1 ?_
  refine go_istore_n (q := 2) (i := 2) rfl dX12_tellUse_22 (nle rfl) (nle rfl) ?_
  refine go_aload_n (q := 0) (i := 0) rfl rfl dX12_tellUse_23 ?_
  refine go_getR lf12_70 rfl hx.o hx.r31 dX12_tellUse_24 ?_
  refine go_iload_n (q := 1) (i := 1) rfl rfl dX12_tellUse_27 ?_
  refine go_aload_n (q := 0) (i := 0) rfl rfl dX12_tellUse_28 ?_
  refine go_callV okmX12_knownHolding lmX12_335 ⟨nle rfl, nle rfl⟩ hx.o ⟨by decide, rfl⟩ (ex_known (w := wq (seen D (tL B n p)) 3 p w) hx hT f1 f2 hpu hn (D := D) ((F0 20 (by decide) (by decide) (by decide) (by decide) (by decide)).trans hU.2.2.2.2.2) (by omega) (fun q => ⟨by unfold NmM; rw [E0 283 (by decide) (by decide) (by decide) (by decide) (by decide) (by decide), J0]; exact (hNm (wq_z (by decide) q).2).1, (hNm (wq_z (by decide) q).2).2⟩) (fun q => hMd (wq_z (by decide) q).2) (fun q => hnm _ q) (fun q => by rw [show (gTk (kG B n z) 23 (0, p)).2 = p + 1 from (gT_n q)]; exact wq_lt hw0)) npmX12_knownHolding rfl (nle rfl) ⟨nle rfl, nle rfl⟩ dX12_tellUse_29 ?_
  rintro _ m2 ⟨⟨v0, rfl, hv0⟩, f1, f2, c1⟩
  have fm := fm.tr (FW.fv (sd := sd) c1)
  have hx := FW.wf c1 hx
  have hT := FW.tk c1 hT
  have E0 : ∀ x, x ≠ 274 → x ≠ 291 → x ≠ 292 → x ≠ 293 → x ≠ 294 → x ≠ 295 → gI m2 x = gI m x := fun x q0 q291 q292 q293 q294 q295 => ((c1).1.at q0).trans (E0 x q0 q291 q292 q293 q294 q295)
  have J0 : ∀ x, gJ m2 x = gJ m x := fun x => ((c1).1.aj (fun a => a)).trans (J0 x)
  have F0 : ∀ k, k ≠ 11 → k ≠ 13 → k ≠ 14 → k ≠ 15 → k ≠ 16 → gI m2 274 k = gI m 274 k := fun k a b d e f => ((c1).2 k a b d e f).trans (F0 k a b d e f)
  have R291 := ((c1).1.at (x := 291) (by decide)).trans R291
  have R292 := ((c1).1.at (x := 292) (by decide)).trans R292
  have R293 := ((c1).1.at (x := 293) (by decide)).trans R293
  have R294 := ((c1).1.at (x := 294) (by decide)).trans R294
  have R295 := ((c1).1.at (x := 295) (by decide)).trans R295
  have f2 : WQ m2 B n z (gTk (kG B n z) 23 (gTk (kG B n z) 23 (0, p))) (wq (¬ fnd D (tL B n (p + 1)) < D.n 2) 4 (p + 1) (wq (seen D (tL B n p)) 3 p w)) := f2.e (fun q => by rw [show (gTk (kG B n z) 23 (0, p)).2 = p + 1 from (fun q => (gT_n q)) (gTk_s q)])
  have hv0 : (gTk (kG B n z) 23 (gTk (kG B n z) 23 (0, p))).1 = 0 → (wq (seen D (tL B n p)) 3 p w).1 = 0 → v0 = if fnd D (tL B n (p + 1)) < D.n 2 then nI (fnd D (tL B n (p + 1))) else -1 := fun q g => by rw [hv0 q g, show (gTk (kG B n z) 23 (0, p)).2 = p + 1 from (fun q => (gT_n q)) (gTk_s q)]
  refine go_c1 ?_
  refine go_iast (j := ((6 * sd) + (D.n 3))) hx.i31 (by omega) (by first | decide | omega) rfl dX12_tellUse_32 ?_
  generalize hmE : sI m2 292 (upd (gI m2 292) (6 * sd + D.n 3) (v0)) = m3
  have fm : FV sd m m3 := by rw [← hmE]; exact fm.up (by decide) (SD.of (b := 6) (i := D.n 3) rfl rfl (by omega))
  have hx : Wf12 m3.1 (gR m3) := by rw [← hmE]; exact hx
  have hT : TkR m3 B n z := by rw [← hmE]; exact hT.st (by decide)
  have E0 : ∀ x, x ≠ 274 → x ≠ 291 → x ≠ 292 → x ≠ 293 → x ≠ 294 → x ≠ 295 → gI m3 x = gI m x := fun x q0 q291 q292 q293 q294 q295 => by rw [← hmE, gI_n q292]; exact E0 x q0 q291 q292 q293 q294 q295
  have J0 : ∀ x, gJ m3 x = gJ m x := fun x => by rw [← hmE, gJ_I]; exact J0 x
  have F0 : ∀ k, k ≠ 11 → k ≠ 13 → k ≠ 14 → k ≠ 15 → k ≠ 16 → gI m3 274 k = gI m 274 k := fun k a b d e f => by rw [← hmE, gI_n (by decide)]; exact F0 k a b d e f
  have R291 := (show gI m3 291 = _ by rw [← hmE, gI_n (by decide), R291])
  have R292 := (show gI m3 292 = _ by rw [← hmE, gI_s, R292])
  have R293 := (show gI m3 293 = _ by rw [← hmE, gI_n (by decide), R293])
  have R294 := (show gI m3 294 = _ by rw [← hmE, gI_n (by decide), R294])
  have R295 := (show gI m3 295 = _ by rw [← hmE, gI_n (by decide), R295])
  have f1 : GM m3 B n z (gTk (kG B n z) 23 (gTk (kG B n z) 23 (0, p))) := by rw [← hmE]; exact f1.st (by decide)
  have f2 : WQ m3 B n z (gTk (kG B n z) 23 (gTk (kG B n z) 23 (0, p))) (wq (¬ fnd D (tL B n (p + 1)) < D.n 2) 4 (p + 1) (wq (seen D (tL B n p)) 3 p w)) := by rw [← hmE]; exact f2.st (by decide)
  clear hmE
  refine go_aload_n (q := 0) (i := 0) rfl rfl dX12_tellUse_33 ?_
  refine go_getR lf12_73 rfl hx.o hx.r32 dX12_tellUse_34 ?_
  refine go_iload_n (q := 1) (i := 1) rfl rfl dX12_tellUse_37 ?_
  refine go_aload_n (q := 0) (i := 0) rfl rfl dX12_tellUse_38 ?_
  refine go_iconst (v := nI 0) (by decide) dX12_tellUse_39 ?_
  refine go_bipush (v := nI 23) (by decide) dX12_tellUse_40 ?_
  refine go_callV okmX12_bounded lmX12_292 ⟨nle rfl, nle rfl⟩ hx.o ⟨by decide, rfl⟩ (ex_bounded (w := wq (¬ fnd D (tL B n (p + 1)) < D.n 2) 4 (p + 1) (wq (seen D (tL B n p)) 3 p w)) hx hT f1 f2 hpu hn hV (a := 0) (b := 23) (by omega) (by omega) (fun q => by rw [show (gTk (kG B n z) 23 (gTk (kG B n z) 23 (0, p))).2 = (p + 2) from ((gT_n q).trans (congrArg (fun x => x + 1) (gT_n (gTk_s q))))]; exact Wo.lt (wq_lt (wq_lt hw0)))) npmX12_bounded rfl (nle rfl) ⟨nle rfl, nle rfl⟩ dX12_tellUse_42 ?_
  rintro _ m4 ⟨⟨v1, rfl, hv1⟩, f1, f2, c1⟩
  have fm := fm.tr (FW.fv (sd := sd) c1)
  have hx := FW.wf c1 hx
  have hT := FW.tk c1 hT
  have E0 : ∀ x, x ≠ 274 → x ≠ 291 → x ≠ 292 → x ≠ 293 → x ≠ 294 → x ≠ 295 → gI m4 x = gI m x := fun x q0 q291 q292 q293 q294 q295 => ((c1).1.at q0).trans (E0 x q0 q291 q292 q293 q294 q295)
  have J0 : ∀ x, gJ m4 x = gJ m x := fun x => ((c1).1.aj (fun a => a)).trans (J0 x)
  have F0 : ∀ k, k ≠ 11 → k ≠ 13 → k ≠ 14 → k ≠ 15 → k ≠ 16 → gI m4 274 k = gI m 274 k := fun k a b d e f => ((c1).2 k a b d e f).trans (F0 k a b d e f)
  have R291 := ((c1).1.at (x := 291) (by decide)).trans R291
  have R292 := ((c1).1.at (x := 292) (by decide)).trans R292
  have R293 := ((c1).1.at (x := 293) (by decide)).trans R293
  have R294 := ((c1).1.at (x := 294) (by decide)).trans R294
  have R295 := ((c1).1.at (x := 295) (by decide)).trans R295
  have f2 : WQ m4 B n z (gTk (kG B n z) 24 (gTk (kG B n z) 23 (gTk (kG B n z) 23 (0, p)))) (wq (23 < (vG B n z (p + 2))) 5 (p + 2) (wq (¬ fnd D (tL B n (p + 1)) < D.n 2) 4 (p + 1) (wq (seen D (tL B n p)) 3 p w))) := f2.e (fun q => by rw [show (gTk (kG B n z) 23 (gTk (kG B n z) 23 (0, p))).2 = (p + 2) from (fun q => ((gT_n q).trans (congrArg (fun x => x + 1) (gT_n (gTk_s q))))) (gTk_s q)]; first | done | exact wq_e (by omega))
  have hv1 : (gTk (kG B n z) 24 (gTk (kG B n z) 23 (gTk (kG B n z) 23 (0, p)))).1 = 0 → v1 = nI (vG B n z (p + 2)) := fun q => by rw [hv1 q, show (gTk (kG B n z) 23 (gTk (kG B n z) 23 (0, p))).2 = (p + 2) from (fun q => ((gT_n q).trans (congrArg (fun x => x + 1) (gT_n (gTk_s q))))) (gTk_s q)]
  refine go_c1 ?_
  refine go_iast (j := ((6 * sd) + (D.n 3))) hx.i32 (by omega) (by first | decide | omega) rfl dX12_tellUse_45 ?_
  generalize hmE : sI m4 293 (upd (gI m4 293) (6 * sd + D.n 3) (v1)) = m5
  have fm : FV sd m m5 := by rw [← hmE]; exact fm.up (by decide) (SD.of (b := 6) (i := D.n 3) rfl rfl (by omega))
  have hx : Wf12 m5.1 (gR m5) := by rw [← hmE]; exact hx
  have hT : TkR m5 B n z := by rw [← hmE]; exact hT.st (by decide)
  have E0 : ∀ x, x ≠ 274 → x ≠ 291 → x ≠ 292 → x ≠ 293 → x ≠ 294 → x ≠ 295 → gI m5 x = gI m x := fun x q0 q291 q292 q293 q294 q295 => by rw [← hmE, gI_n q293]; exact E0 x q0 q291 q292 q293 q294 q295
  have J0 : ∀ x, gJ m5 x = gJ m x := fun x => by rw [← hmE, gJ_I]; exact J0 x
  have F0 : ∀ k, k ≠ 11 → k ≠ 13 → k ≠ 14 → k ≠ 15 → k ≠ 16 → gI m5 274 k = gI m 274 k := fun k a b d e f => by rw [← hmE, gI_n (by decide)]; exact F0 k a b d e f
  have R291 := (show gI m5 291 = _ by rw [← hmE, gI_n (by decide), R291])
  have R292 := (show gI m5 292 = _ by rw [← hmE, gI_n (by decide), R292])
  have R293 := (show gI m5 293 = _ by rw [← hmE, gI_s, R293])
  have R294 := (show gI m5 294 = _ by rw [← hmE, gI_n (by decide), R294])
  have R295 := (show gI m5 295 = _ by rw [← hmE, gI_n (by decide), R295])
  have f1 : GM m5 B n z (gTk (kG B n z) 24 (gTk (kG B n z) 23 (gTk (kG B n z) 23 (0, p)))) := by rw [← hmE]; exact f1.st (by decide)
  have f2 : WQ m5 B n z (gTk (kG B n z) 24 (gTk (kG B n z) 23 (gTk (kG B n z) 23 (0, p)))) (wq (23 < (vG B n z (p + 2))) 5 (p + 2) (wq (¬ fnd D (tL B n (p + 1)) < D.n 2) 4 (p + 1) (wq (seen D (tL B n p)) 3 p w))) := by rw [← hmE]; exact f2.st (by decide)
  clear hmE
  refine go_aload_n (q := 0) (i := 0) rfl rfl dX12_tellUse_46 ?_
  refine go_getI lf12_233 rfl hx.o dX12_tellUse_47 ?_
  obtain ⟨t3, t3z, t3e⟩ := f1.2.2.2.2.2
  have has3 : (gTk (kG B n z) 24 (gTk (kG B n z) 23 (gTk (kG B n z) 23 (0, p)))).1 = 0 → t3 = p + 3 := fun q => (nI_i (t3e.symm.trans (f1.2.1 q)) (by omega) (by have := f1.2.2.2.2.1; omega)).trans (((gT_n q).trans (congrArg (fun x => x + 1) ((gT_n (gTk_s q)).trans (congrArg (fun x => x + 1) (gT_n (gTk_s (gTk_s q))))))))
  rw [t3e]
  refine go_istore_n (q := 3) (i := 3) rfl dX12_tellUse_50 (nle rfl) (nle rfl) ?_
  refine go_L (L' := [some (.ref 274), some (.int (nI ((6 * sd) + (D.n 3)))), some (.int (nI a)), some (.int (nI t3))]) rfl ?_
  refine go_aload_n (q := 0) (i := 0) rfl rfl dX12_tellUse_51 ?_
  refine go_getR lf12_76 rfl hx.o hx.r33 dX12_tellUse_52 ?_
  refine go_iload_n (q := 1) (i := 1) rfl rfl dX12_tellUse_55 ?_
  refine go_aload_n (q := 0) (i := 0) rfl rfl dX12_tellUse_56 ?_
  refine go_iconst (v := nI 0) (by decide) dX12_tellUse_57 ?_
  refine go_bipush (v := nI 23) (by decide) dX12_tellUse_58 ?_
  refine go_callV okmX12_bounded lmX12_292 ⟨nle rfl, nle rfl⟩ hx.o ⟨by decide, rfl⟩ (ex_bounded (w := wq (23 < (vG B n z (p + 2))) 5 (p + 2) (wq (¬ fnd D (tL B n (p + 1)) < D.n 2) 4 (p + 1) (wq (seen D (tL B n p)) 3 p w))) hx hT f1 f2 hpu hn hV (a := 0) (b := 23) (by omega) (by omega) (fun q => by rw [show (gTk (kG B n z) 24 (gTk (kG B n z) 23 (gTk (kG B n z) 23 (0, p)))).2 = (p + 3) from ((gT_n q).trans (congrArg (fun x => x + 1) ((gT_n (gTk_s q)).trans (congrArg (fun x => x + 1) (gT_n (gTk_s (gTk_s q)))))))]; exact Wo.lt (wq_lt (wq_lt (wq_lt hw0))))) npmX12_bounded rfl (nle rfl) ⟨nle rfl, nle rfl⟩ dX12_tellUse_60 ?_
  rintro _ m6 ⟨⟨v2, rfl, hv2⟩, f1, f2, c1⟩
  have fm := fm.tr (FW.fv (sd := sd) c1)
  have hx := FW.wf c1 hx
  have hT := FW.tk c1 hT
  have E0 : ∀ x, x ≠ 274 → x ≠ 291 → x ≠ 292 → x ≠ 293 → x ≠ 294 → x ≠ 295 → gI m6 x = gI m x := fun x q0 q291 q292 q293 q294 q295 => ((c1).1.at q0).trans (E0 x q0 q291 q292 q293 q294 q295)
  have J0 : ∀ x, gJ m6 x = gJ m x := fun x => ((c1).1.aj (fun a => a)).trans (J0 x)
  have F0 : ∀ k, k ≠ 11 → k ≠ 13 → k ≠ 14 → k ≠ 15 → k ≠ 16 → gI m6 274 k = gI m 274 k := fun k a b d e f => ((c1).2 k a b d e f).trans (F0 k a b d e f)
  have R291 := ((c1).1.at (x := 291) (by decide)).trans R291
  have R292 := ((c1).1.at (x := 292) (by decide)).trans R292
  have R293 := ((c1).1.at (x := 293) (by decide)).trans R293
  have R294 := ((c1).1.at (x := 294) (by decide)).trans R294
  have R295 := ((c1).1.at (x := 295) (by decide)).trans R295
  have f2 : WQ m6 B n z (gTk (kG B n z) 24 (gTk (kG B n z) 24 (gTk (kG B n z) 23 (gTk (kG B n z) 23 (0, p))))) (wq (23 < (vG B n z (p + 3))) 5 (p + 3) (wq (23 < (vG B n z (p + 2))) 5 (p + 2) (wq (¬ fnd D (tL B n (p + 1)) < D.n 2) 4 (p + 1) (wq (seen D (tL B n p)) 3 p w)))) := f2.e (fun q => by rw [show (gTk (kG B n z) 24 (gTk (kG B n z) 23 (gTk (kG B n z) 23 (0, p)))).2 = (p + 3) from (fun q => ((gT_n q).trans (congrArg (fun x => x + 1) ((gT_n (gTk_s q)).trans (congrArg (fun x => x + 1) (gT_n (gTk_s (gTk_s q)))))))) (gTk_s q)]; first | done | exact wq_e (by omega))
  have hv2 : (gTk (kG B n z) 24 (gTk (kG B n z) 24 (gTk (kG B n z) 23 (gTk (kG B n z) 23 (0, p))))).1 = 0 → v2 = nI (vG B n z (p + 3)) := fun q => by rw [hv2 q, show (gTk (kG B n z) 24 (gTk (kG B n z) 23 (gTk (kG B n z) 23 (0, p)))).2 = (p + 3) from (fun q => ((gT_n q).trans (congrArg (fun x => x + 1) ((gT_n (gTk_s q)).trans (congrArg (fun x => x + 1) (gT_n (gTk_s (gTk_s q)))))))) (gTk_s q)]
  refine go_c1 ?_
  refine go_iast (j := ((6 * sd) + (D.n 3))) hx.i33 (by omega) (by first | decide | omega) rfl dX12_tellUse_63 ?_
  generalize hmE : sI m6 294 (upd (gI m6 294) (6 * sd + D.n 3) (v2)) = m7
  have fm : FV sd m m7 := by rw [← hmE]; exact fm.up (by decide) (SD.of (b := 6) (i := D.n 3) rfl rfl (by omega))
  have hx : Wf12 m7.1 (gR m7) := by rw [← hmE]; exact hx
  have hT : TkR m7 B n z := by rw [← hmE]; exact hT.st (by decide)
  have E0 : ∀ x, x ≠ 274 → x ≠ 291 → x ≠ 292 → x ≠ 293 → x ≠ 294 → x ≠ 295 → gI m7 x = gI m x := fun x q0 q291 q292 q293 q294 q295 => by rw [← hmE, gI_n q294]; exact E0 x q0 q291 q292 q293 q294 q295
  have J0 : ∀ x, gJ m7 x = gJ m x := fun x => by rw [← hmE, gJ_I]; exact J0 x
  have F0 : ∀ k, k ≠ 11 → k ≠ 13 → k ≠ 14 → k ≠ 15 → k ≠ 16 → gI m7 274 k = gI m 274 k := fun k a b d e f => by rw [← hmE, gI_n (by decide)]; exact F0 k a b d e f
  have R291 := (show gI m7 291 = _ by rw [← hmE, gI_n (by decide), R291])
  have R292 := (show gI m7 292 = _ by rw [← hmE, gI_n (by decide), R292])
  have R293 := (show gI m7 293 = _ by rw [← hmE, gI_n (by decide), R293])
  have R294 := (show gI m7 294 = _ by rw [← hmE, gI_s, R294])
  have R295 := (show gI m7 295 = _ by rw [← hmE, gI_n (by decide), R295])
  have f1 : GM m7 B n z (gTk (kG B n z) 24 (gTk (kG B n z) 24 (gTk (kG B n z) 23 (gTk (kG B n z) 23 (0, p))))) := by rw [← hmE]; exact f1.st (by decide)
  have f2 : WQ m7 B n z (gTk (kG B n z) 24 (gTk (kG B n z) 24 (gTk (kG B n z) 23 (gTk (kG B n z) 23 (0, p))))) (wq (23 < (vG B n z (p + 3))) 5 (p + 3) (wq (23 < (vG B n z (p + 2))) 5 (p + 2) (wq (¬ fnd D (tL B n (p + 1)) < D.n 2) 4 (p + 1) (wq (seen D (tL B n p)) 3 p w)))) := by rw [← hmE]; exact f2.st (by decide)
  clear hmE
  refine go_aload_n (q := 0) (i := 0) rfl rfl dX12_tellUse_64 ?_
  refine go_getI lf12_230 rfl hx.o dX12_tellUse_65 ?_
  rw [f1.1]
  have h94 := f1.2.2.2.1
  refine gz_ne (by omega) (tgt := 92) dX12_tellUse_68 (by decide) (fun h68 => ?_) (fun h68 => ?_)
  · skip
    have f2 : WQ m7 B n z (gTk (kG B n z) 24 (gTk (kG B n z) 24 (gTk (kG B n z) 23 (gTk (kG B n z) 23 (0, p))))) (wq ((vG B n z (p + 3)) < (vG B n z (p + 2)) ∨ 23 < (vG B n z (p + 3))) 5 (p + 3) (wq (23 < (vG B n z (p + 2))) 5 (p + 2) (wq (¬ fnd D (tL B n (p + 1)) < D.n 2) 4 (p + 1) (wq (seen D (tL B n p)) 3 p w)))) := fun q => absurd q (by omega)
    refine go_aload_n (q := 0) (i := 0) rfl rfl dX12_tellUse_92 ?_
    refine go_getR lf12_79 rfl hx.o hx.r34 dX12_tellUse_93 ?_
    refine go_iload_n (q := 1) (i := 1) rfl rfl dX12_tellUse_96 ?_
    refine go_aload_n (q := 0) (i := 0) rfl rfl dX12_tellUse_97 ?_
    refine go_iconst (v := nI 1) (by decide) dX12_tellUse_98 ?_
    refine go_bipush (v := nI 99) (by decide) dX12_tellUse_99 ?_
    refine go_callV okmX12_bounded lmX12_292 ⟨nle rfl, nle rfl⟩ hx.o ⟨by decide, rfl⟩ (ex_bounded (w := wq ((vG B n z (p + 3)) < (vG B n z (p + 2)) ∨ 23 < (vG B n z (p + 3))) 5 (p + 3) (wq (23 < (vG B n z (p + 2))) 5 (p + 2) (wq (¬ fnd D (tL B n (p + 1)) < D.n 2) 4 (p + 1) (wq (seen D (tL B n p)) 3 p w)))) hx hT f1 f2 hpu hn hV (a := 1) (b := 99) (by omega) (by omega) (fun q => by rw [show (gTk (kG B n z) 24 (gTk (kG B n z) 24 (gTk (kG B n z) 23 (gTk (kG B n z) 23 (0, p))))).2 = (p + 4) from ((gT_n q).trans (congrArg (fun x => x + 1) ((gT_n (gTk_s q)).trans (congrArg (fun x => x + 1) ((gT_n (gTk_s (gTk_s q))).trans (congrArg (fun x => x + 1) (gT_n (gTk_s (gTk_s (gTk_s q))))))))))]; exact Wo.lt (wq_lt (wq_lt (wq_lt (wq_lt hw0)))))) npmX12_bounded rfl (nle rfl) ⟨nle rfl, nle rfl⟩ dX12_tellUse_101 ?_
    rintro _ m9 ⟨⟨v4, rfl, hv4⟩, f1, f2, c1⟩
    have fm := fm.tr (FW.fv (sd := sd) c1)
    have hx := FW.wf c1 hx
    have hT := FW.tk c1 hT
    have E0 : ∀ x, x ≠ 274 → x ≠ 291 → x ≠ 292 → x ≠ 293 → x ≠ 294 → x ≠ 295 → gI m9 x = gI m x := fun x q0 q291 q292 q293 q294 q295 => ((c1).1.at q0).trans (E0 x q0 q291 q292 q293 q294 q295)
    have J0 : ∀ x, gJ m9 x = gJ m x := fun x => ((c1).1.aj (fun a => a)).trans (J0 x)
    have F0 : ∀ k, k ≠ 11 → k ≠ 13 → k ≠ 14 → k ≠ 15 → k ≠ 16 → gI m9 274 k = gI m 274 k := fun k a b d e f => ((c1).2 k a b d e f).trans (F0 k a b d e f)
    have R291 := ((c1).1.at (x := 291) (by decide)).trans R291
    have R292 := ((c1).1.at (x := 292) (by decide)).trans R292
    have R293 := ((c1).1.at (x := 293) (by decide)).trans R293
    have R294 := ((c1).1.at (x := 294) (by decide)).trans R294
    have R295 := ((c1).1.at (x := 295) (by decide)).trans R295
    have f2 : WQ m9 B n z (gTk (kG B n z) 24 (gTk (kG B n z) 24 (gTk (kG B n z) 24 (gTk (kG B n z) 23 (gTk (kG B n z) 23 (0, p)))))) (wq ((vG B n z (p + 4)) < 1 ∨ 99 < (vG B n z (p + 4))) 5 (p + 4) (wq ((vG B n z (p + 3)) < (vG B n z (p + 2)) ∨ 23 < (vG B n z (p + 3))) 5 (p + 3) (wq (23 < (vG B n z (p + 2))) 5 (p + 2) (wq (¬ fnd D (tL B n (p + 1)) < D.n 2) 4 (p + 1) (wq (seen D (tL B n p)) 3 p w))))) := f2.e (fun q => by rw [show (gTk (kG B n z) 24 (gTk (kG B n z) 24 (gTk (kG B n z) 23 (gTk (kG B n z) 23 (0, p))))).2 = (p + 4) from (fun q => ((gT_n q).trans (congrArg (fun x => x + 1) ((gT_n (gTk_s q)).trans (congrArg (fun x => x + 1) ((gT_n (gTk_s (gTk_s q))).trans (congrArg (fun x => x + 1) (gT_n (gTk_s (gTk_s (gTk_s q))))))))))) (gTk_s q)]; first | done | exact wq_e (by omega))
    have hv4 : (gTk (kG B n z) 24 (gTk (kG B n z) 24 (gTk (kG B n z) 24 (gTk (kG B n z) 23 (gTk (kG B n z) 23 (0, p)))))).1 = 0 → v4 = nI (vG B n z (p + 4)) := fun q => by rw [hv4 q, show (gTk (kG B n z) 24 (gTk (kG B n z) 24 (gTk (kG B n z) 23 (gTk (kG B n z) 23 (0, p))))).2 = (p + 4) from (fun q => ((gT_n q).trans (congrArg (fun x => x + 1) ((gT_n (gTk_s q)).trans (congrArg (fun x => x + 1) ((gT_n (gTk_s (gTk_s q))).trans (congrArg (fun x => x + 1) (gT_n (gTk_s (gTk_s (gTk_s q))))))))))) (gTk_s q)]
    refine go_c1 ?_
    refine go_iast (j := ((6 * sd) + (D.n 3))) hx.i34 (by omega) (by first | decide | omega) rfl dX12_tellUse_104 ?_
    generalize hmE : sI m9 295 (upd (gI m9 295) (6 * sd + D.n 3) (v4)) = m10
    have fm : FV sd m m10 := by rw [← hmE]; exact fm.up (by decide) (SD.of (b := 6) (i := D.n 3) rfl rfl (by omega))
    have hx : Wf12 m10.1 (gR m10) := by rw [← hmE]; exact hx
    have hT : TkR m10 B n z := by rw [← hmE]; exact hT.st (by decide)
    have E0 : ∀ x, x ≠ 274 → x ≠ 291 → x ≠ 292 → x ≠ 293 → x ≠ 294 → x ≠ 295 → gI m10 x = gI m x := fun x q0 q291 q292 q293 q294 q295 => by rw [← hmE, gI_n q295]; exact E0 x q0 q291 q292 q293 q294 q295
    have J0 : ∀ x, gJ m10 x = gJ m x := fun x => by rw [← hmE, gJ_I]; exact J0 x
    have F0 : ∀ k, k ≠ 11 → k ≠ 13 → k ≠ 14 → k ≠ 15 → k ≠ 16 → gI m10 274 k = gI m 274 k := fun k a b d e f => by rw [← hmE, gI_n (by decide)]; exact F0 k a b d e f
    have R291 := (show gI m10 291 = _ by rw [← hmE, gI_n (by decide), R291])
    have R292 := (show gI m10 292 = _ by rw [← hmE, gI_n (by decide), R292])
    have R293 := (show gI m10 293 = _ by rw [← hmE, gI_n (by decide), R293])
    have R294 := (show gI m10 294 = _ by rw [← hmE, gI_n (by decide), R294])
    have R295 := (show gI m10 295 = _ by rw [← hmE, gI_s, R295])
    have f1 : GM m10 B n z (gTk (kG B n z) 24 (gTk (kG B n z) 24 (gTk (kG B n z) 24 (gTk (kG B n z) 23 (gTk (kG B n z) 23 (0, p)))))) := by rw [← hmE]; exact f1.st (by decide)
    have f2 : WQ m10 B n z (gTk (kG B n z) 24 (gTk (kG B n z) 24 (gTk (kG B n z) 24 (gTk (kG B n z) 23 (gTk (kG B n z) 23 (0, p)))))) (wq ((vG B n z (p + 4)) < 1 ∨ 99 < (vG B n z (p + 4))) 5 (p + 4) (wq ((vG B n z (p + 3)) < (vG B n z (p + 2)) ∨ 23 < (vG B n z (p + 3))) 5 (p + 3) (wq (23 < (vG B n z (p + 2))) 5 (p + 2) (wq (¬ fnd D (tL B n (p + 1)) < D.n 2) 4 (p + 1) (wq (seen D (tL B n p)) 3 p w))))) := by rw [← hmE]; exact f2.st (by decide)
    clear hmE
    refine go_aload_n (q := 0) (i := 0) rfl rfl dX12_tellUse_105 ?_
    refine go_iload_n (q := 2) (i := 2) rfl rfl dX12_tellUse_106 ?_
    refine go_iconst (v := -1) (by decide) dX12_tellUse_107 ?_
    refine go_callV okmX12_ends lmX12_332 ⟨nle rfl, nle rfl⟩ hx.o ⟨by decide, rfl⟩ (ex_ends (N := D.n 2 + D.n 3) (v := -1) hx hT f1 ((F0 20 (by decide) (by decide) (by decide) (by decide) (by decide)).trans hU.2.2.2.2.2) (by omega) (t := a) haz) npmX12_ends rfl (nle rfl) ⟨nle rfl, nle rfl⟩ dX12_tellUse_108 ?_
    rintro _ m11 ⟨rfl, f1', c1, ce⟩
    have hx := c1.wf hx
    have hT := c1.tk hT
    have f2' := f2
    have f1 := f1'
    have h9 := f1.2.2.2.1
    have fm := fm.tr (FN.fv (sd := sd) c1)
    refine go_c0 ?_
    refine go_aload_n (q := 0) (i := 0) rfl rfl dX12_tellUse_111 ?_
    refine go_getI lf12_230 rfl hx.o dX12_tellUse_112 ?_
    rw [f1.1]
    refine gz_ne (by omega) (tgt := 131) dX12_tellUse_115 (by decide) (fun h115 => ?_) (fun h115 => ?_)
    · skip
      refine go_vret rfl ⟨Nat.zero_le _, Nat.zero_le _⟩ dX12_tellUse_131 ?_
      have hne : (gTk (kG B n z) 25 (gTk (kG B n z) 24 (gTk (kG B n z) 24 (gTk (kG B n z) 24 (gTk (kG B n z) 23 (gTk (kG B n z) 23 (0, p))))))).1 ≠ 0 := by omega
      exact ⟨rfl, f1, fun q => absurd q hne, fm, fun q => absurd q hne⟩
    · skip
      refine go_aload_n (q := 0) (i := 0) rfl rfl dX12_tellUse_118 ?_
      refine go_getR lf12_67 rfl hx.o hx.r30 dX12_tellUse_119 ?_
      refine go_aload_n (q := 0) (i := 0) rfl rfl dX12_tellUse_122 ?_
      refine go_getI lf12_263 rfl hx.o dX12_tellUse_123 ?_
      rw [c1.2 19 (by decide) (by decide) (by decide) (by decide), show gI _ 274 19 = nI sd from (F0 19 (by decide) (by decide) (by decide) (by decide) (by decide)).trans hsd]
      refine go_dup2 rfl rfl dX12_tellUse_126 ?_
      refine go_iald (j := sd) hx.i30 (by omega) (by first | decide | omega) rfl dX12_tellUse_127 ?_
      rw [c1.1.at (by decide), R291, hU.1.2.2.2.1]
      refine go_iconst (v := nI 1) (by decide) dX12_tellUse_128 ?_
      refine gn_add dX12_tellUse_129 ?_
      refine go_iast (j := sd) hx.i30 (by omega) (by first | decide | omega) rfl dX12_tellUse_130 ?_
      refine go_vret rfl ⟨Nat.zero_le _, Nat.zero_le _⟩ dX12_tellUse_131 ?_
      have hz6 : (gTk (kG B n z) 25 (gTk (kG B n z) 24 (gTk (kG B n z) 24 (gTk (kG B n z) 24 (gTk (kG B n z) 23 (gTk (kG B n z) 23 (0, p))))))).1 = 0 := by omega
      have hz5 := gTk_s hz6
      have hz4 := gTk_s hz5
      have hz3 := gTk_s hz4
      have hz2 := gTk_s hz3
      have hz1 := gTk_s hz2
      have hk1 : kG B n z p = 23 := (gTk_z hz1).2.1
      obtain ⟨e1, e2, e3⟩ := ce hz6
      have h83' : gI m10 283 = gI m 283 := E0 283 (by decide) (by decide) (by decide) (by decide) (by decide) (by decide)
      rw [h83'] at e2
      have hnk : gJ m 280 a = lN (nkM (tL B n p)) := by
        rw [has]
        exact (hT0.2.2.2 p hpz).2.2.2 (by unfold kG at hk1; rw [if_pos hpz] at hk1; omega)
      rw [J0, J0, hnk] at e1
      rw [hv1 hz3] at R293
      rw [hv2 hz4] at R294
      rw [hv4 hz5] at R295
      have RR := Rd.us (m' := sI m11 291 (upd (gI m11 291) sd (nI (D.n 3 + 1)))) (k := (tL B n (p + 1))) hU ⟨by omega, by omega⟩ (fun x a1 a2 a3 a4 a5 a6 a7 => by rw [gI_n a3, c1.1.at (by omega)]; exact E0 x a1 a3 a4 a5 a6 a7) (by rw [gI_s, c1.1.at (by decide), R291]) (by rw [gI_n (by decide), c1.1.at (by decide)]; exact R292) (by rw [gI_n (by decide), c1.1.at (by decide)]; exact R293) (by rw [gI_n (by decide), c1.1.at (by decide)]; exact R294) (by rw [gI_n (by decide), c1.1.at (by decide)]; exact R295) (by rw [gI_n (by decide)]; exact e3) (by rw [gJ_I]; exact e1) (by rw [gI_n (by decide)]; exact e2)
      refine ⟨rfl, f1.st (by decide), ?_, fm.up (by decide) (SD.at rfl), fun _ => ⟨RR.1, fun z0 => ?_⟩⟩
      · refine WQ.st (fun q => ?_) (by decide)
        rw [c1.2 15 (by decide) (by decide) (by decide) (by decide), c1.2 16 (by decide) (by decide) (by decide) (by decide)]
        exact f2 hz5
      · have y1 := (wq_z (by decide) (wq_z (by decide) (wq_z (by decide) (wq_z (by decide) z0).2).2).2).2
        exact RR.2 (hv0 hz2 y1) (hC (wq_z (by decide) y1).2).1
  · skip
    refine go_aload_n (q := 0) (i := 0) rfl rfl dX12_tellUse_71 ?_
    refine go_getR lf12_76 rfl hx.o hx.r33 dX12_tellUse_72 ?_
    refine go_iload_n (q := 1) (i := 1) rfl rfl dX12_tellUse_75 ?_
    refine go_iald (j := ((6 * sd) + (D.n 3))) hx.i33 (by omega) (by first | decide | omega) rfl dX12_tellUse_76 ?_
    rw [R294, upd_same]
    refine go_aload_n (q := 0) (i := 0) rfl rfl dX12_tellUse_77 ?_
    refine go_getR lf12_73 rfl hx.o hx.r32 dX12_tellUse_78 ?_
    refine go_iload_n (q := 1) (i := 1) rfl rfl dX12_tellUse_81 ?_
    refine go_iald (j := ((6 * sd) + (D.n 3))) hx.i32 (by omega) (by first | decide | omega) rfl dX12_tellUse_82 ?_
    rw [R293, upd_same]
    refine go_icmp_ge (tgt := 92) dX12_tellUse_83 (by decide) (fun h83 => ?_) (fun h83 => ?_)
    · skip
      have z40 : (gTk (kG B n z) 24 (gTk (kG B n z) 24 (gTk (kG B n z) 23 (gTk (kG B n z) 23 (0, p))))).1 = 0 := by omega
      have k2 : (vG B n z (p + 2)) < 65536 := by
        have e := (gTk_z (gTk_s z40)).2.1
        rw [show (gTk (kG B n z) 23 (gTk (kG B n z) 23 (0, p))).2 = p + 2 from (fun q => ((gT_n q).trans (congrArg (fun x => x + 1) (gT_n (gTk_s q))))) (gTk_s (gTk_s z40))] at e
        exact hV _ e
      have k3 : (vG B n z (p + 3)) < 65536 := by
        have e := (gTk_z z40).2.1
        rw [show (gTk (kG B n z) 24 (gTk (kG B n z) 23 (gTk (kG B n z) 23 (0, p)))).2 = p + 3 from (fun q => ((gT_n q).trans (congrArg (fun x => x + 1) ((gT_n (gTk_s q)).trans (congrArg (fun x => x + 1) (gT_n (gTk_s (gTk_s q)))))))) (gTk_s z40)] at e
        exact hV _ e
      have f2 : WQ m7 B n z (gTk (kG B n z) 24 (gTk (kG B n z) 24 (gTk (kG B n z) 23 (gTk (kG B n z) 23 (0, p))))) (wq ((vG B n z (p + 3)) < (vG B n z (p + 2)) ∨ 23 < (vG B n z (p + 3))) 5 (p + 3) (wq (23 < (vG B n z (p + 2))) 5 (p + 2) (wq (¬ fnd D (tL B n (p + 1)) < D.n 2) 4 (p + 1) (wq (seen D (tL B n p)) 3 p w)))) := f2.e (fun q => by
        rw [hv1 (gTk_s z40), hv2 z40, nI_leI (by omega) (by omega)] at h83
        exact wq_e ⟨fun g => g.resolve_left (by omega), Or.inr⟩)
      refine go_aload_n (q := 0) (i := 0) rfl rfl dX12_tellUse_92 ?_
      refine go_getR lf12_79 rfl hx.o hx.r34 dX12_tellUse_93 ?_
      refine go_iload_n (q := 1) (i := 1) rfl rfl dX12_tellUse_96 ?_
      refine go_aload_n (q := 0) (i := 0) rfl rfl dX12_tellUse_97 ?_
      refine go_iconst (v := nI 1) (by decide) dX12_tellUse_98 ?_
      refine go_bipush (v := nI 99) (by decide) dX12_tellUse_99 ?_
      refine go_callV okmX12_bounded lmX12_292 ⟨nle rfl, nle rfl⟩ hx.o ⟨by decide, rfl⟩ (ex_bounded (w := wq ((vG B n z (p + 3)) < (vG B n z (p + 2)) ∨ 23 < (vG B n z (p + 3))) 5 (p + 3) (wq (23 < (vG B n z (p + 2))) 5 (p + 2) (wq (¬ fnd D (tL B n (p + 1)) < D.n 2) 4 (p + 1) (wq (seen D (tL B n p)) 3 p w)))) hx hT f1 f2 hpu hn hV (a := 1) (b := 99) (by omega) (by omega) (fun q => by rw [show (gTk (kG B n z) 24 (gTk (kG B n z) 24 (gTk (kG B n z) 23 (gTk (kG B n z) 23 (0, p))))).2 = (p + 4) from ((gT_n q).trans (congrArg (fun x => x + 1) ((gT_n (gTk_s q)).trans (congrArg (fun x => x + 1) ((gT_n (gTk_s (gTk_s q))).trans (congrArg (fun x => x + 1) (gT_n (gTk_s (gTk_s (gTk_s q))))))))))]; exact Wo.lt (wq_lt (wq_lt (wq_lt (wq_lt hw0)))))) npmX12_bounded rfl (nle rfl) ⟨nle rfl, nle rfl⟩ dX12_tellUse_101 ?_
      rintro _ m9 ⟨⟨v4, rfl, hv4⟩, f1, f2, c1⟩
      have fm := fm.tr (FW.fv (sd := sd) c1)
      have hx := FW.wf c1 hx
      have hT := FW.tk c1 hT
      have E0 : ∀ x, x ≠ 274 → x ≠ 291 → x ≠ 292 → x ≠ 293 → x ≠ 294 → x ≠ 295 → gI m9 x = gI m x := fun x q0 q291 q292 q293 q294 q295 => ((c1).1.at q0).trans (E0 x q0 q291 q292 q293 q294 q295)
      have J0 : ∀ x, gJ m9 x = gJ m x := fun x => ((c1).1.aj (fun a => a)).trans (J0 x)
      have F0 : ∀ k, k ≠ 11 → k ≠ 13 → k ≠ 14 → k ≠ 15 → k ≠ 16 → gI m9 274 k = gI m 274 k := fun k a b d e f => ((c1).2 k a b d e f).trans (F0 k a b d e f)
      have R291 := ((c1).1.at (x := 291) (by decide)).trans R291
      have R292 := ((c1).1.at (x := 292) (by decide)).trans R292
      have R293 := ((c1).1.at (x := 293) (by decide)).trans R293
      have R294 := ((c1).1.at (x := 294) (by decide)).trans R294
      have R295 := ((c1).1.at (x := 295) (by decide)).trans R295
      have f2 : WQ m9 B n z (gTk (kG B n z) 24 (gTk (kG B n z) 24 (gTk (kG B n z) 24 (gTk (kG B n z) 23 (gTk (kG B n z) 23 (0, p)))))) (wq ((vG B n z (p + 4)) < 1 ∨ 99 < (vG B n z (p + 4))) 5 (p + 4) (wq ((vG B n z (p + 3)) < (vG B n z (p + 2)) ∨ 23 < (vG B n z (p + 3))) 5 (p + 3) (wq (23 < (vG B n z (p + 2))) 5 (p + 2) (wq (¬ fnd D (tL B n (p + 1)) < D.n 2) 4 (p + 1) (wq (seen D (tL B n p)) 3 p w))))) := f2.e (fun q => by rw [show (gTk (kG B n z) 24 (gTk (kG B n z) 24 (gTk (kG B n z) 23 (gTk (kG B n z) 23 (0, p))))).2 = (p + 4) from (fun q => ((gT_n q).trans (congrArg (fun x => x + 1) ((gT_n (gTk_s q)).trans (congrArg (fun x => x + 1) ((gT_n (gTk_s (gTk_s q))).trans (congrArg (fun x => x + 1) (gT_n (gTk_s (gTk_s (gTk_s q))))))))))) (gTk_s q)]; first | done | exact wq_e (by omega))
      have hv4 : (gTk (kG B n z) 24 (gTk (kG B n z) 24 (gTk (kG B n z) 24 (gTk (kG B n z) 23 (gTk (kG B n z) 23 (0, p)))))).1 = 0 → v4 = nI (vG B n z (p + 4)) := fun q => by rw [hv4 q, show (gTk (kG B n z) 24 (gTk (kG B n z) 24 (gTk (kG B n z) 23 (gTk (kG B n z) 23 (0, p))))).2 = (p + 4) from (fun q => ((gT_n q).trans (congrArg (fun x => x + 1) ((gT_n (gTk_s q)).trans (congrArg (fun x => x + 1) ((gT_n (gTk_s (gTk_s q))).trans (congrArg (fun x => x + 1) (gT_n (gTk_s (gTk_s (gTk_s q))))))))))) (gTk_s q)]
      refine go_c1 ?_
      refine go_iast (j := ((6 * sd) + (D.n 3))) hx.i34 (by omega) (by first | decide | omega) rfl dX12_tellUse_104 ?_
      generalize hmE : sI m9 295 (upd (gI m9 295) (6 * sd + D.n 3) (v4)) = m10
      have fm : FV sd m m10 := by rw [← hmE]; exact fm.up (by decide) (SD.of (b := 6) (i := D.n 3) rfl rfl (by omega))
      have hx : Wf12 m10.1 (gR m10) := by rw [← hmE]; exact hx
      have hT : TkR m10 B n z := by rw [← hmE]; exact hT.st (by decide)
      have E0 : ∀ x, x ≠ 274 → x ≠ 291 → x ≠ 292 → x ≠ 293 → x ≠ 294 → x ≠ 295 → gI m10 x = gI m x := fun x q0 q291 q292 q293 q294 q295 => by rw [← hmE, gI_n q295]; exact E0 x q0 q291 q292 q293 q294 q295
      have J0 : ∀ x, gJ m10 x = gJ m x := fun x => by rw [← hmE, gJ_I]; exact J0 x
      have F0 : ∀ k, k ≠ 11 → k ≠ 13 → k ≠ 14 → k ≠ 15 → k ≠ 16 → gI m10 274 k = gI m 274 k := fun k a b d e f => by rw [← hmE, gI_n (by decide)]; exact F0 k a b d e f
      have R291 := (show gI m10 291 = _ by rw [← hmE, gI_n (by decide), R291])
      have R292 := (show gI m10 292 = _ by rw [← hmE, gI_n (by decide), R292])
      have R293 := (show gI m10 293 = _ by rw [← hmE, gI_n (by decide), R293])
      have R294 := (show gI m10 294 = _ by rw [← hmE, gI_n (by decide), R294])
      have R295 := (show gI m10 295 = _ by rw [← hmE, gI_s, R295])
      have f1 : GM m10 B n z (gTk (kG B n z) 24 (gTk (kG B n z) 24 (gTk (kG B n z) 24 (gTk (kG B n z) 23 (gTk (kG B n z) 23 (0, p)))))) := by rw [← hmE]; exact f1.st (by decide)
      have f2 : WQ m10 B n z (gTk (kG B n z) 24 (gTk (kG B n z) 24 (gTk (kG B n z) 24 (gTk (kG B n z) 23 (gTk (kG B n z) 23 (0, p)))))) (wq ((vG B n z (p + 4)) < 1 ∨ 99 < (vG B n z (p + 4))) 5 (p + 4) (wq ((vG B n z (p + 3)) < (vG B n z (p + 2)) ∨ 23 < (vG B n z (p + 3))) 5 (p + 3) (wq (23 < (vG B n z (p + 2))) 5 (p + 2) (wq (¬ fnd D (tL B n (p + 1)) < D.n 2) 4 (p + 1) (wq (seen D (tL B n p)) 3 p w))))) := by rw [← hmE]; exact f2.st (by decide)
      clear hmE
      refine go_aload_n (q := 0) (i := 0) rfl rfl dX12_tellUse_105 ?_
      refine go_iload_n (q := 2) (i := 2) rfl rfl dX12_tellUse_106 ?_
      refine go_iconst (v := -1) (by decide) dX12_tellUse_107 ?_
      refine go_callV okmX12_ends lmX12_332 ⟨nle rfl, nle rfl⟩ hx.o ⟨by decide, rfl⟩ (ex_ends (N := D.n 2 + D.n 3) (v := -1) hx hT f1 ((F0 20 (by decide) (by decide) (by decide) (by decide) (by decide)).trans hU.2.2.2.2.2) (by omega) (t := a) haz) npmX12_ends rfl (nle rfl) ⟨nle rfl, nle rfl⟩ dX12_tellUse_108 ?_
      rintro _ m11 ⟨rfl, f1', c1, ce⟩
      have hx := c1.wf hx
      have hT := c1.tk hT
      have f2' := f2
      have f1 := f1'
      have h9 := f1.2.2.2.1
      have fm := fm.tr (FN.fv (sd := sd) c1)
      refine go_c0 ?_
      refine go_aload_n (q := 0) (i := 0) rfl rfl dX12_tellUse_111 ?_
      refine go_getI lf12_230 rfl hx.o dX12_tellUse_112 ?_
      rw [f1.1]
      refine gz_ne (by omega) (tgt := 131) dX12_tellUse_115 (by decide) (fun h115 => ?_) (fun h115 => ?_)
      · skip
        refine go_vret rfl ⟨Nat.zero_le _, Nat.zero_le _⟩ dX12_tellUse_131 ?_
        have hne : (gTk (kG B n z) 25 (gTk (kG B n z) 24 (gTk (kG B n z) 24 (gTk (kG B n z) 24 (gTk (kG B n z) 23 (gTk (kG B n z) 23 (0, p))))))).1 ≠ 0 := by omega
        exact ⟨rfl, f1, fun q => absurd q hne, fm, fun q => absurd q hne⟩
      · skip
        refine go_aload_n (q := 0) (i := 0) rfl rfl dX12_tellUse_118 ?_
        refine go_getR lf12_67 rfl hx.o hx.r30 dX12_tellUse_119 ?_
        refine go_aload_n (q := 0) (i := 0) rfl rfl dX12_tellUse_122 ?_
        refine go_getI lf12_263 rfl hx.o dX12_tellUse_123 ?_
        rw [c1.2 19 (by decide) (by decide) (by decide) (by decide), show gI _ 274 19 = nI sd from (F0 19 (by decide) (by decide) (by decide) (by decide) (by decide)).trans hsd]
        refine go_dup2 rfl rfl dX12_tellUse_126 ?_
        refine go_iald (j := sd) hx.i30 (by omega) (by first | decide | omega) rfl dX12_tellUse_127 ?_
        rw [c1.1.at (by decide), R291, hU.1.2.2.2.1]
        refine go_iconst (v := nI 1) (by decide) dX12_tellUse_128 ?_
        refine gn_add dX12_tellUse_129 ?_
        refine go_iast (j := sd) hx.i30 (by omega) (by first | decide | omega) rfl dX12_tellUse_130 ?_
        refine go_vret rfl ⟨Nat.zero_le _, Nat.zero_le _⟩ dX12_tellUse_131 ?_
        have hz6 : (gTk (kG B n z) 25 (gTk (kG B n z) 24 (gTk (kG B n z) 24 (gTk (kG B n z) 24 (gTk (kG B n z) 23 (gTk (kG B n z) 23 (0, p))))))).1 = 0 := by omega
        have hz5 := gTk_s hz6
        have hz4 := gTk_s hz5
        have hz3 := gTk_s hz4
        have hz2 := gTk_s hz3
        have hz1 := gTk_s hz2
        have hk1 : kG B n z p = 23 := (gTk_z hz1).2.1
        obtain ⟨e1, e2, e3⟩ := ce hz6
        have h83' : gI m10 283 = gI m 283 := E0 283 (by decide) (by decide) (by decide) (by decide) (by decide) (by decide)
        rw [h83'] at e2
        have hnk : gJ m 280 a = lN (nkM (tL B n p)) := by
          rw [has]
          exact (hT0.2.2.2 p hpz).2.2.2 (by unfold kG at hk1; rw [if_pos hpz] at hk1; omega)
        rw [J0, J0, hnk] at e1
        rw [hv1 hz3] at R293
        rw [hv2 hz4] at R294
        rw [hv4 hz5] at R295
        have RR := Rd.us (m' := sI m11 291 (upd (gI m11 291) sd (nI (D.n 3 + 1)))) (k := (tL B n (p + 1))) hU ⟨by omega, by omega⟩ (fun x a1 a2 a3 a4 a5 a6 a7 => by rw [gI_n a3, c1.1.at (by omega)]; exact E0 x a1 a3 a4 a5 a6 a7) (by rw [gI_s, c1.1.at (by decide), R291]) (by rw [gI_n (by decide), c1.1.at (by decide)]; exact R292) (by rw [gI_n (by decide), c1.1.at (by decide)]; exact R293) (by rw [gI_n (by decide), c1.1.at (by decide)]; exact R294) (by rw [gI_n (by decide), c1.1.at (by decide)]; exact R295) (by rw [gI_n (by decide)]; exact e3) (by rw [gJ_I]; exact e1) (by rw [gI_n (by decide)]; exact e2)
        refine ⟨rfl, f1.st (by decide), ?_, fm.up (by decide) (SD.at rfl), fun _ => ⟨RR.1, fun z0 => ?_⟩⟩
        · refine WQ.st (fun q => ?_) (by decide)
          rw [c1.2 15 (by decide) (by decide) (by decide) (by decide), c1.2 16 (by decide) (by decide) (by decide) (by decide)]
          exact f2 hz5
        · have y1 := (wq_z (by decide) (wq_z (by decide) (wq_z (by decide) (wq_z (by decide) z0).2).2).2).2
          exact RR.2 (hv0 hz2 y1) (hC (wq_z (by decide) y1).2).1
    · skip
      refine go_aload_n (q := 0) (i := 0) rfl rfl dX12_tellUse_86 ?_
      refine go_iconst (v := nI 5) (by decide) dX12_tellUse_87 ?_
      refine go_iload_n (q := 3) (i := 3) rfl rfl dX12_tellUse_88 ?_
      refine go_callV okmX12_wrong lmX12_282 ⟨nle rfl, nle rfl⟩ hx.o ⟨by decide, rfl⟩ (ex_wrong hx hT f1 f2 hpu hn (c := 5) (by decide) (j := t3) t3z (fun q => by rw [has3 (gTk_s q)]; exact Wo.wq (wq_lt (wq_lt (wq_lt hw0))))) npmX12_wrong rfl (nle rfl) ⟨nle rfl, nle rfl⟩ dX12_tellUse_89 ?_
      rintro _ m8 ⟨rfl, f1, f2, c1⟩
      have z40 : (gTk (kG B n z) 24 (gTk (kG B n z) 24 (gTk (kG B n z) 23 (gTk (kG B n z) 23 (0, p))))).1 = 0 := by omega
      have k2 : (vG B n z (p + 2)) < 65536 := by
        have e := (gTk_z (gTk_s z40)).2.1
        rw [show (gTk (kG B n z) 23 (gTk (kG B n z) 23 (0, p))).2 = p + 2 from (fun q => ((gT_n q).trans (congrArg (fun x => x + 1) (gT_n (gTk_s q))))) (gTk_s (gTk_s z40))] at e
        exact hV _ e
      have k3 : (vG B n z (p + 3)) < 65536 := by
        have e := (gTk_z z40).2.1
        rw [show (gTk (kG B n z) 24 (gTk (kG B n z) 23 (gTk (kG B n z) 23 (0, p)))).2 = p + 3 from (fun q => ((gT_n q).trans (congrArg (fun x => x + 1) ((gT_n (gTk_s q)).trans (congrArg (fun x => x + 1) (gT_n (gTk_s (gTk_s q)))))))) (gTk_s z40)] at e
        exact hV _ e
      have f2 : WQ m8 B n z (gTk (kG B n z) 24 (gTk (kG B n z) 24 (gTk (kG B n z) 23 (gTk (kG B n z) 23 (0, p))))) (wq ((vG B n z (p + 3)) < (vG B n z (p + 2)) ∨ 23 < (vG B n z (p + 3))) 5 (p + 3) (wq (23 < (vG B n z (p + 2))) 5 (p + 2) (wq (¬ fnd D (tL B n (p + 1)) < D.n 2) 4 (p + 1) (wq (seen D (tL B n p)) 3 p w)))) := f2.e (fun q => by
        rw [has3 (gTk_s q), wq_o (by decide)]
        rw [hv1 (gTk_s z40), hv2 z40, nI_leI (by omega) (by omega)] at h83
        exact wq_e ⟨fun _ => Or.inr True.intro, fun _ => Or.inl (by omega)⟩)
      have fm := fm.tr (FW.fv (sd := sd) c1)
      have hx := FW.wf c1 hx
      have hT := FW.tk c1 hT
      have E0 : ∀ x, x ≠ 274 → x ≠ 291 → x ≠ 292 → x ≠ 293 → x ≠ 294 → x ≠ 295 → gI m8 x = gI m x := fun x q0 q291 q292 q293 q294 q295 => ((c1).1.at q0).trans (E0 x q0 q291 q292 q293 q294 q295)
      have J0 : ∀ x, gJ m8 x = gJ m x := fun x => ((c1).1.aj (fun a => a)).trans (J0 x)
      have F0 : ∀ k, k ≠ 11 → k ≠ 13 → k ≠ 14 → k ≠ 15 → k ≠ 16 → gI m8 274 k = gI m 274 k := fun k a b d e f => ((c1).2 k a b d e f).trans (F0 k a b d e f)
      have R291 := ((c1).1.at (x := 291) (by decide)).trans R291
      have R292 := ((c1).1.at (x := 292) (by decide)).trans R292
      have R293 := ((c1).1.at (x := 293) (by decide)).trans R293
      have R294 := ((c1).1.at (x := 294) (by decide)).trans R294
      have R295 := ((c1).1.at (x := 295) (by decide)).trans R295
      refine go_c0 ?_
      refine go_aload_n (q := 0) (i := 0) rfl rfl dX12_tellUse_92 ?_
      refine go_getR lf12_79 rfl hx.o hx.r34 dX12_tellUse_93 ?_
      refine go_iload_n (q := 1) (i := 1) rfl rfl dX12_tellUse_96 ?_
      refine go_aload_n (q := 0) (i := 0) rfl rfl dX12_tellUse_97 ?_
      refine go_iconst (v := nI 1) (by decide) dX12_tellUse_98 ?_
      refine go_bipush (v := nI 99) (by decide) dX12_tellUse_99 ?_
      refine go_callV okmX12_bounded lmX12_292 ⟨nle rfl, nle rfl⟩ hx.o ⟨by decide, rfl⟩ (ex_bounded (w := wq ((vG B n z (p + 3)) < (vG B n z (p + 2)) ∨ 23 < (vG B n z (p + 3))) 5 (p + 3) (wq (23 < (vG B n z (p + 2))) 5 (p + 2) (wq (¬ fnd D (tL B n (p + 1)) < D.n 2) 4 (p + 1) (wq (seen D (tL B n p)) 3 p w)))) hx hT f1 f2 hpu hn hV (a := 1) (b := 99) (by omega) (by omega) (fun q => by rw [show (gTk (kG B n z) 24 (gTk (kG B n z) 24 (gTk (kG B n z) 23 (gTk (kG B n z) 23 (0, p))))).2 = (p + 4) from ((gT_n q).trans (congrArg (fun x => x + 1) ((gT_n (gTk_s q)).trans (congrArg (fun x => x + 1) ((gT_n (gTk_s (gTk_s q))).trans (congrArg (fun x => x + 1) (gT_n (gTk_s (gTk_s (gTk_s q))))))))))]; exact Wo.lt (wq_lt (wq_lt (wq_lt (wq_lt hw0)))))) npmX12_bounded rfl (nle rfl) ⟨nle rfl, nle rfl⟩ dX12_tellUse_101 ?_
      rintro _ m9 ⟨⟨v4, rfl, hv4⟩, f1, f2, c1⟩
      have fm := fm.tr (FW.fv (sd := sd) c1)
      have hx := FW.wf c1 hx
      have hT := FW.tk c1 hT
      have E0 : ∀ x, x ≠ 274 → x ≠ 291 → x ≠ 292 → x ≠ 293 → x ≠ 294 → x ≠ 295 → gI m9 x = gI m x := fun x q0 q291 q292 q293 q294 q295 => ((c1).1.at q0).trans (E0 x q0 q291 q292 q293 q294 q295)
      have J0 : ∀ x, gJ m9 x = gJ m x := fun x => ((c1).1.aj (fun a => a)).trans (J0 x)
      have F0 : ∀ k, k ≠ 11 → k ≠ 13 → k ≠ 14 → k ≠ 15 → k ≠ 16 → gI m9 274 k = gI m 274 k := fun k a b d e f => ((c1).2 k a b d e f).trans (F0 k a b d e f)
      have R291 := ((c1).1.at (x := 291) (by decide)).trans R291
      have R292 := ((c1).1.at (x := 292) (by decide)).trans R292
      have R293 := ((c1).1.at (x := 293) (by decide)).trans R293
      have R294 := ((c1).1.at (x := 294) (by decide)).trans R294
      have R295 := ((c1).1.at (x := 295) (by decide)).trans R295
      have f2 : WQ m9 B n z (gTk (kG B n z) 24 (gTk (kG B n z) 24 (gTk (kG B n z) 24 (gTk (kG B n z) 23 (gTk (kG B n z) 23 (0, p)))))) (wq ((vG B n z (p + 4)) < 1 ∨ 99 < (vG B n z (p + 4))) 5 (p + 4) (wq ((vG B n z (p + 3)) < (vG B n z (p + 2)) ∨ 23 < (vG B n z (p + 3))) 5 (p + 3) (wq (23 < (vG B n z (p + 2))) 5 (p + 2) (wq (¬ fnd D (tL B n (p + 1)) < D.n 2) 4 (p + 1) (wq (seen D (tL B n p)) 3 p w))))) := f2.e (fun q => by rw [show (gTk (kG B n z) 24 (gTk (kG B n z) 24 (gTk (kG B n z) 23 (gTk (kG B n z) 23 (0, p))))).2 = (p + 4) from (fun q => ((gT_n q).trans (congrArg (fun x => x + 1) ((gT_n (gTk_s q)).trans (congrArg (fun x => x + 1) ((gT_n (gTk_s (gTk_s q))).trans (congrArg (fun x => x + 1) (gT_n (gTk_s (gTk_s (gTk_s q))))))))))) (gTk_s q)]; first | done | exact wq_e (by omega))
      have hv4 : (gTk (kG B n z) 24 (gTk (kG B n z) 24 (gTk (kG B n z) 24 (gTk (kG B n z) 23 (gTk (kG B n z) 23 (0, p)))))).1 = 0 → v4 = nI (vG B n z (p + 4)) := fun q => by rw [hv4 q, show (gTk (kG B n z) 24 (gTk (kG B n z) 24 (gTk (kG B n z) 23 (gTk (kG B n z) 23 (0, p))))).2 = (p + 4) from (fun q => ((gT_n q).trans (congrArg (fun x => x + 1) ((gT_n (gTk_s q)).trans (congrArg (fun x => x + 1) ((gT_n (gTk_s (gTk_s q))).trans (congrArg (fun x => x + 1) (gT_n (gTk_s (gTk_s (gTk_s q))))))))))) (gTk_s q)]
      refine go_c1 ?_
      refine go_iast (j := ((6 * sd) + (D.n 3))) hx.i34 (by omega) (by first | decide | omega) rfl dX12_tellUse_104 ?_
      generalize hmE : sI m9 295 (upd (gI m9 295) (6 * sd + D.n 3) (v4)) = m10
      have fm : FV sd m m10 := by rw [← hmE]; exact fm.up (by decide) (SD.of (b := 6) (i := D.n 3) rfl rfl (by omega))
      have hx : Wf12 m10.1 (gR m10) := by rw [← hmE]; exact hx
      have hT : TkR m10 B n z := by rw [← hmE]; exact hT.st (by decide)
      have E0 : ∀ x, x ≠ 274 → x ≠ 291 → x ≠ 292 → x ≠ 293 → x ≠ 294 → x ≠ 295 → gI m10 x = gI m x := fun x q0 q291 q292 q293 q294 q295 => by rw [← hmE, gI_n q295]; exact E0 x q0 q291 q292 q293 q294 q295
      have J0 : ∀ x, gJ m10 x = gJ m x := fun x => by rw [← hmE, gJ_I]; exact J0 x
      have F0 : ∀ k, k ≠ 11 → k ≠ 13 → k ≠ 14 → k ≠ 15 → k ≠ 16 → gI m10 274 k = gI m 274 k := fun k a b d e f => by rw [← hmE, gI_n (by decide)]; exact F0 k a b d e f
      have R291 := (show gI m10 291 = _ by rw [← hmE, gI_n (by decide), R291])
      have R292 := (show gI m10 292 = _ by rw [← hmE, gI_n (by decide), R292])
      have R293 := (show gI m10 293 = _ by rw [← hmE, gI_n (by decide), R293])
      have R294 := (show gI m10 294 = _ by rw [← hmE, gI_n (by decide), R294])
      have R295 := (show gI m10 295 = _ by rw [← hmE, gI_s, R295])
      have f1 : GM m10 B n z (gTk (kG B n z) 24 (gTk (kG B n z) 24 (gTk (kG B n z) 24 (gTk (kG B n z) 23 (gTk (kG B n z) 23 (0, p)))))) := by rw [← hmE]; exact f1.st (by decide)
      have f2 : WQ m10 B n z (gTk (kG B n z) 24 (gTk (kG B n z) 24 (gTk (kG B n z) 24 (gTk (kG B n z) 23 (gTk (kG B n z) 23 (0, p)))))) (wq ((vG B n z (p + 4)) < 1 ∨ 99 < (vG B n z (p + 4))) 5 (p + 4) (wq ((vG B n z (p + 3)) < (vG B n z (p + 2)) ∨ 23 < (vG B n z (p + 3))) 5 (p + 3) (wq (23 < (vG B n z (p + 2))) 5 (p + 2) (wq (¬ fnd D (tL B n (p + 1)) < D.n 2) 4 (p + 1) (wq (seen D (tL B n p)) 3 p w))))) := by rw [← hmE]; exact f2.st (by decide)
      clear hmE
      refine go_aload_n (q := 0) (i := 0) rfl rfl dX12_tellUse_105 ?_
      refine go_iload_n (q := 2) (i := 2) rfl rfl dX12_tellUse_106 ?_
      refine go_iconst (v := -1) (by decide) dX12_tellUse_107 ?_
      refine go_callV okmX12_ends lmX12_332 ⟨nle rfl, nle rfl⟩ hx.o ⟨by decide, rfl⟩ (ex_ends (N := D.n 2 + D.n 3) (v := -1) hx hT f1 ((F0 20 (by decide) (by decide) (by decide) (by decide) (by decide)).trans hU.2.2.2.2.2) (by omega) (t := a) haz) npmX12_ends rfl (nle rfl) ⟨nle rfl, nle rfl⟩ dX12_tellUse_108 ?_
      rintro _ m11 ⟨rfl, f1', c1, ce⟩
      have hx := c1.wf hx
      have hT := c1.tk hT
      have f2' := f2
      have f1 := f1'
      have h9 := f1.2.2.2.1
      have fm := fm.tr (FN.fv (sd := sd) c1)
      refine go_c0 ?_
      refine go_aload_n (q := 0) (i := 0) rfl rfl dX12_tellUse_111 ?_
      refine go_getI lf12_230 rfl hx.o dX12_tellUse_112 ?_
      rw [f1.1]
      refine gz_ne (by omega) (tgt := 131) dX12_tellUse_115 (by decide) (fun h115 => ?_) (fun h115 => ?_)
      · skip
        refine go_vret rfl ⟨Nat.zero_le _, Nat.zero_le _⟩ dX12_tellUse_131 ?_
        have hne : (gTk (kG B n z) 25 (gTk (kG B n z) 24 (gTk (kG B n z) 24 (gTk (kG B n z) 24 (gTk (kG B n z) 23 (gTk (kG B n z) 23 (0, p))))))).1 ≠ 0 := by omega
        exact ⟨rfl, f1, fun q => absurd q hne, fm, fun q => absurd q hne⟩
      · skip
        refine go_aload_n (q := 0) (i := 0) rfl rfl dX12_tellUse_118 ?_
        refine go_getR lf12_67 rfl hx.o hx.r30 dX12_tellUse_119 ?_
        refine go_aload_n (q := 0) (i := 0) rfl rfl dX12_tellUse_122 ?_
        refine go_getI lf12_263 rfl hx.o dX12_tellUse_123 ?_
        rw [c1.2 19 (by decide) (by decide) (by decide) (by decide), show gI _ 274 19 = nI sd from (F0 19 (by decide) (by decide) (by decide) (by decide) (by decide)).trans hsd]
        refine go_dup2 rfl rfl dX12_tellUse_126 ?_
        refine go_iald (j := sd) hx.i30 (by omega) (by first | decide | omega) rfl dX12_tellUse_127 ?_
        rw [c1.1.at (by decide), R291, hU.1.2.2.2.1]
        refine go_iconst (v := nI 1) (by decide) dX12_tellUse_128 ?_
        refine gn_add dX12_tellUse_129 ?_
        refine go_iast (j := sd) hx.i30 (by omega) (by first | decide | omega) rfl dX12_tellUse_130 ?_
        refine go_vret rfl ⟨Nat.zero_le _, Nat.zero_le _⟩ dX12_tellUse_131 ?_
        have hz6 : (gTk (kG B n z) 25 (gTk (kG B n z) 24 (gTk (kG B n z) 24 (gTk (kG B n z) 24 (gTk (kG B n z) 23 (gTk (kG B n z) 23 (0, p))))))).1 = 0 := by omega
        have hz5 := gTk_s hz6
        have hz4 := gTk_s hz5
        have hz3 := gTk_s hz4
        have hz2 := gTk_s hz3
        have hz1 := gTk_s hz2
        have hk1 : kG B n z p = 23 := (gTk_z hz1).2.1
        obtain ⟨e1, e2, e3⟩ := ce hz6
        have h83' : gI m10 283 = gI m 283 := E0 283 (by decide) (by decide) (by decide) (by decide) (by decide) (by decide)
        rw [h83'] at e2
        have hnk : gJ m 280 a = lN (nkM (tL B n p)) := by
          rw [has]
          exact (hT0.2.2.2 p hpz).2.2.2 (by unfold kG at hk1; rw [if_pos hpz] at hk1; omega)
        rw [J0, J0, hnk] at e1
        rw [hv1 hz3] at R293
        rw [hv2 hz4] at R294
        rw [hv4 hz5] at R295
        have RR := Rd.us (m' := sI m11 291 (upd (gI m11 291) sd (nI (D.n 3 + 1)))) (k := (tL B n (p + 1))) hU ⟨by omega, by omega⟩ (fun x a1 a2 a3 a4 a5 a6 a7 => by rw [gI_n a3, c1.1.at (by omega)]; exact E0 x a1 a3 a4 a5 a6 a7) (by rw [gI_s, c1.1.at (by decide), R291]) (by rw [gI_n (by decide), c1.1.at (by decide)]; exact R292) (by rw [gI_n (by decide), c1.1.at (by decide)]; exact R293) (by rw [gI_n (by decide), c1.1.at (by decide)]; exact R294) (by rw [gI_n (by decide), c1.1.at (by decide)]; exact R295) (by rw [gI_n (by decide)]; exact e3) (by rw [gJ_I]; exact e1) (by rw [gI_n (by decide)]; exact e2)
        refine ⟨rfl, f1.st (by decide), ?_, fm.up (by decide) (SD.at rfl), fun _ => ⟨RR.1, fun z0 => ?_⟩⟩
        · refine WQ.st (fun q => ?_) (by decide)
          rw [c1.2 15 (by decide) (by decide) (by decide) (by decide), c1.2 16 (by decide) (by decide) (by decide) (by decide)]
          exact f2 hz5
        · have y1 := (wq_z (by decide) (wq_z (by decide) (wq_z (by decide) (wq_z (by decide) z0).2).2).2).2
          exact RR.2 (hv0 hz2 y1) (hC (wq_z (by decide) y1).2).1
