/-- what a tell of the reference writes -/
def FA (sd : Nat) (m m' : Me) : Prop := Fx (fun x => x = 274 ∨ (283 ≤ x ∧ x ≤ 312)) (fun x => x = 282) m m' ∧ (∀ k, k ≠ 11 → k ≠ 12 → k ≠ 13 → k ≠ 14 → k ≠ 15 → k ≠ 16 → k ≠ 20 → k ≠ 44 → k ≠ 50 → k ≠ 54 → gI m' 274 k = gI m 274 k) ∧ FS sd m m'
theorem FA.rf {sd : Nat} {m : Me} : FA sd m m := ⟨Fx.rf, fun _ _ _ _ _ _ _ _ _ _ _ => rfl, fun _ _ _ _ _ => rfl⟩
theorem FA.tr {sd : Nat} {m m' m'' : Me} (h : FA sd m m') (k : FA sd m' m'') : FA sd m m'' := ⟨h.1.tr k.1, fun x a b c d e f g i j l => (k.2.1 x a b c d e f g i j l).trans (h.2.1 x a b c d e f g i j l), fun r j a b c => (k.2.2 r j a b c).trans (h.2.2 r j a b c)⟩
theorem FV.fa {sd : Nat} {m m' : Me} (c : FV sd m m') : FA sd m m' := ⟨c.1.mn (fun x h => by omega) (fun x h => h), fun k a _ b d e f g _ _ _ => c.2.1 k a b d e f g, c.2.2⟩
theorem Fq.fa {sd : Nat} {m m' : Me} (c : Fq m m') : FA sd m m' := (FW.fv c.fw).fa
theorem Ft.fa {sd b kk : Nat} {m m' : Me} (c : Ft (420 * sd) b (130 * sd + 130) (4 * sd + kk) m m') (hb : 130 * sd ≤ b) (hk : kk < 4) : FA sd m m' := ⟨c.1.mn (fun x h => by omega) (fun x h => h.elim), fun k a b c' d _ _ g e i j => c.2.1 k a b c' d e i j, fun r j h1 h2 n => by
  by_cases q1 : r = 303 ∨ r = 304
  · have hz : bz r = 4 := by rcases q1 with rfl | rfl <;> rfl
    have : j ≠ 4 * sd + kk := fun w => n (SD.of hz w hk)
    rcases q1 with rfl | rfl
    · exact (c.2.2.2.2 j this).1
    · exact (c.2.2.2.2 j this).2
  · by_cases q2 : 305 ≤ r ∧ r ≤ 309
    · have hz : bz r = 130 := by
        rcases (show r = 305 ∨ r = 306 ∨ r = 307 ∨ r = 308 ∨ r = 309 by omega) with rfl | rfl | rfl | rfl | rfl <;> rfl
      unfold SD at n
      rw [hz] at n
      exact c.2.2.2.1 r j q2.1 q2.2 (by omega)
    · by_cases q3 : r = 310 ∨ r = 311
      · have hz : bz r = 420 := by rcases q3 with rfl | rfl <;> rfl
        unfold SD at n
        rw [hz] at n
        rcases q3 with rfl | rfl
        · exact (c.2.2.1 j (by omega)).1
        · exact (c.2.2.1 j (by omega)).2
      · rw [c.1.at (by omega)]⟩
theorem FA.wf {sd : Nat} {m m' : Me} (c : FA sd m m') (h : Wf12 m.1 (gR m)) : Wf12 m'.1 (gR m') := c.1.to (F := Wf12) h
theorem FA.tk {sd : Nat} {m m' : Me} {B : Nat → Nat} {n z : Nat} (c : FA sd m m') (h : TkR m B n z) : TkR m' B n z := ⟨h.1, h.2.1, h.2.2.1, fun j hj => by rw [c.1.at (by decide), c.1.at (by decide), c.1.at (by decide), c.1.aj (by decide)]; exact h.2.2.2 j hj⟩
/-- the reference's laws, as they are drafted -/
def LwI (m : Me) (sd : Nat) (D : Dr) (p : Nat) : Prop := ∃ (C : Cs) (W : List Nat) (b : Nat), RC m (420 * sd) W C ∧ C.length ≤ p ∧ C.length + W.length ≤ 410 ∧ gI m 274 44 = nI b ∧ 130 * sd ≤ b ∧ 4 * (b - 130 * sd) ≤ p ∧ gI m 274 12 = nI 0 ∧ ∀ k, k < 4 → (gI m 303 (4 * sd + k) = nI 0 ∧ gI m 304 (4 * sd + k) = nI 0 ∧ D.l k = deL k) ∨ ∃ b0, 130 * sd ≤ b0 ∧ b0 + (D.l k).1.length + 1 ≤ b ∧ gI m 303 (4 * sd + k) = nI b0 ∧ gI m 304 (4 * sd + k) = nI (b0 + (D.l k).1.length + 1) ∧ LwA m (420 * sd) C b0 (D.l k).1 (D.l k).2
theorem LwI.keep {m m' : Me} {sd p p' : Nat} {D D' : Dr} (h : LwI m sd D p) (e : ∀ x, 303 ≤ x → x ≤ 312 → gI m' x = gI m x) (f : ∀ k, k = 12 ∨ k = 44 ∨ k = 50 ∨ k = 54 → gI m' 274 k = gI m 274 k) (hp : p ≤ p') (hl : D'.l = D.l) : LwI m' sd D' p' := by
  obtain ⟨C, W, b, ⟨r1, r2, r3, r4⟩, h1, h2, h3, h4, h5, h6, h7⟩ := h
  refine ⟨C, W, b, ⟨by rw [f 50 (by omega)]; exact r1, fun i c hi => by rw [e 310 (by decide) (by decide), e 311 (by decide) (by decide)]; exact r2 i c hi, by rw [f 54 (by omega)]; exact r3, fun i k hi => by rw [e 312 (by decide) (by decide)]; exact r4 i k hi⟩, by omega, h2, by rw [f 44 (by omega)]; exact h3, h4, by omega, by rw [f 12 (by omega)]; exact h6, fun k hk => ?_⟩
  rw [e 303 (by decide) (by decide), e 304 (by decide) (by decide), hl]
  rcases h7 k hk with h | ⟨b0, a1, a2, a3, a4, a5⟩
  · exact Or.inl h
  · exact Or.inr ⟨b0, a1, a2, a3, a4, LwA.keep (fun _ _ a => a) _ b0 a5 (fun y r _ _ a d => by rw [e r (by omega) (by omega)])⟩
theorem LwI.fv {m m' : Me} {sd p p' : Nat} {D D' : Dr} (h : LwI m sd D p) (c : FV sd m m') (hp : p ≤ p') (hl : D'.l = D.l) : LwI m' sd D' p' := h.keep (fun x a b => c.1.at (by omega)) (fun k hk => c.2.1 k (by omega) (by omega) (by omega) (by omega) (by omega) (by omega)) hp hl
theorem gTell_ge {K : Nat → Nat} {c : Nat → Nat} {k p : Nat} (hk : K p = k) (h : (gTell K c k (0, p)).1 = 0) : p ≤ (gTell K c k (0, p)).2 := by
  obtain ⟨a, b, -⟩ := te_i hk h
  have := (te_sk b hk a).1
  omega
theorem rk_n : ∀ k, k ≤ 35 → 10 < k → (rk k < 20 ∨ 30 < rk k) ∧ rk k ≤ 42 := by decide +kernel
theorem FA.u {sd : Nat} {m m' : Me} {D : Dr} (c : Fq m m') (h : RdU m sd D) : RdU m' sd D := h.fv (fun x a b => c.1.at (by omega)) (c.2 20 (by decide) (by decide) (by decide))
theorem FA.c {sd : Nat} {m m' : Me} {D : Dr} (c : Fq m m') (h : RdC m sd D) : RdC m' sd D := h.fv (fun x a b => c.1.at (by omega)) (c.1.aj (fun a => a))
theorem gTell_l {K : Nat → Nat} {c : Nat → Nat} {k p : Nat} (h : 4 ≤ k ∧ k ≤ 7) : gTell K c k (0, p) = gLE K 400 1 (gTk K 26 (gTk K k (0, p))) := by
  unfold gTell gLaw
  rw [if_neg (by omega), if_pos h, show gCn k c (0, p) = (0, p) from if_neg (fun q => by omega)]
theorem teD_l {K V : Nat → Nat} {N : Nat → List Nat} {k p : Nat} {D : Dr} (h : 4 ≤ k ∧ k ≤ 7) : teD K V N k p D = lwD D (k - 4) (laP K V (p + 2)) := by
  unfold teD
  rw [if_neg (by omega), if_neg (by omega), if_neg (by omega), if_neg (by omega), if_neg (by omega), if_neg (by omega), if_neg (by omega)]
theorem teW_l {V : Nat → Nat} {N : Nat → List Nat} {k p : Nat} {D : Dr} {w : Nat × Nat} (h : 4 ≤ k ∧ k ≤ 7) : teW V N k p D w = w := by
  unfold teW
  rw [if_neg (by omega), if_neg (by omega), if_neg (by omega), if_neg (by omega), if_neg (by omega), if_neg (by omega), if_neg (by omega)]
theorem RdU.lw {m : Me} {sd k : Nat} {D : Dr} {x : List Br × Cs} (h : RdU m sd D) : RdU m sd (lwD D k x) := h
theorem RdC.lw {m : Me} {sd k : Nat} {D : Dr} {x : List Br × Cs} (h : RdC m sd D) : RdC m sd (lwD D k x) := h
theorem RC.wv {m : Me} {c0 : Nat} {W : List Nat} {D : Cs} (r : RC m c0 W D) (h : W.length ≤ 410) : WvR m := ⟨W, h, r.2.2.1, r.2.2.2⟩
theorem LwI.wv {m : Me} {sd p : Nat} {D : Dr} (h : LwI m sd D p) : WvR m := by
  obtain ⟨C, W, b, r, -, h2, -⟩ := h
  exact r.wv (by omega)
theorem WvR.fv {m m' : Me} {sd : Nat} (h : WvR m) (c : FV sd m m') : WvR m' := by
  unfold WvR
  rw [c.2.1 54 (by decide) (by decide) (by decide) (by decide) (by decide) (by decide), c.1.at (show ¬ (312 = 274 ∨ (283 ≤ 312 ∧ 312 ≤ 302)) by decide)]
  exact h
/-- a law more -/
theorem LwI.law {m m' : Me} {sd q b b' kk : Nat} {C D' : Cs} {W' : List Nat} {D : Dr} {x : List Br × Cs} (hk : kk < 4) (h4 : 130 * sd ≤ b) (h7 : ∀ k, k < 4 → (gI m 303 (4 * sd + k) = nI 0 ∧ gI m 304 (4 * sd + k) = nI 0 ∧ D.l k = deL k) ∨ ∃ b0, 130 * sd ≤ b0 ∧ b0 + (D.l k).1.length + 1 ≤ b ∧ gI m 303 (4 * sd + k) = nI b0 ∧ gI m 304 (4 * sd + k) = nI (b0 + (D.l k).1.length + 1) ∧ LwA m (420 * sd) C b0 (D.l k).1 (D.l k).2)
    (r : RC m' (420 * sd) W' D') (t : Ft (420 * sd) b (130 * sd + 130) (4 * sd + kk) m m') (a : gI m' 274 44 = nI b') (hb : b ≤ b') (hl : D'.length + W'.length ≤ 410) (hf : LwF m' (420 * sd) b b' (4 * sd + kk) C D' x.1 x.2 sd q) : LwI m' sd (lwD D kk x) q := by
  obtain ⟨f1, f2, f3, ⟨Y, f4⟩, f5, f6, f7, f8, f9, fA⟩ := hf
  refine ⟨D', W', b', r, f1, hl, a, by omega, f2, f3, fun k hk4 => ?_⟩
  show (_ ∧ _ ∧ va_up D.l kk x k = deL k) ∨ ∃ b0, _ ∧ b0 + (va_up D.l kk x k).1.length + 1 ≤ b' ∧ _ ∧ _ = nI (b0 + (va_up D.l kk x k).1.length + 1) ∧ LwA m' (420 * sd) D' b0 (va_up D.l kk x k).1 (va_up D.l kk x k).2
  by_cases e : k = kk
  · rw [drU e, e]
    exact Or.inr ⟨b, h4, by omega, f6, by rw [f7, f8], f5⟩
  · rw [up_n e, (t.2.2.2.2 (4 * sd + k) (by omega)).1, (t.2.2.2.2 (4 * sd + k) (by omega)).2]
    rcases h7 k hk4 with h | ⟨b0, a1, a2, a3, a4, a5⟩
    · exact Or.inl h
    · refine Or.inr ⟨b0, a1, by omega, a3, a4, LwA.keep (fun i c hi => by rw [f4]; exact ap_l hi) _ b0 a5 (fun y r _ hy h1 h2 => t.2.2.2.1 r y h1 h2 (by omega))⟩
set_option maxRecDepth 100000 in
set_option maxHeartbeats 8000000 in
theorem ex_tellOne {m : Me} {B : Nat → Nat} {n z sd p k : Nat} {w : Nat × Nat} {D : Dr} {c : Nat → Nat} (hx : Wf12 m.1 (gR m)) (hT : TkR m B n z) (h : GM m B n z (0, p)) (hq : WQ m B n z (0, p) w) (hpu : PuG B n z) (hn : n ≤ 2000) (hV : ∀ j, kG B n z j = 24 → vG B n z j < 65536) (hnm : ∀ j, kG B n z j = 23 → NmO (tL B n j)) (hsd : gI m 274 19 = nI sd) (hs2 : sd < 2) (hU : RdU m sd D) (hC : w.1 = 0 → RdC m sd D ∧ DrO D ∧ NmD D) (hcn : CnW c D) (hw0 : w.1 ≠ 0 → w.2 < p) (hL : LwI m sd D p) (hk : kG B n z p = k) (hp4 : p ≤ 400) : Ev mX12_tellOne [.ref 274] m (fun o m' => o = none ∧ GM m' B n z (gTell (kG B n z) c k (0, p)) ∧ WQ m' B n z (gTell (kG B n z) c k (0, p)) (teW (vG B n z) (tL B n) k p D w) ∧ FA sd m m' ∧ WvR m' ∧ ((gTell (kG B n z) c k (0, p)).1 = 0 → RdU m' sd (teD (kG B n z) (vG B n z) (tL B n) k p D) ∧ ((teW (vG B n z) (tL B n) k p D w).1 = 0 → RdC m' sd (teD (kG B n z) (vG B n z) (tL B n) k p D)) ∧ LwI m' sd (teD (kG B n z) (vG B n z) (tL B n) k p D) (gTell (kG B n z) c k (0, p)).2)) := by
  refine ⟨plmX12_tellOne, nle rfl, ?_⟩
  obtain ⟨x0, x1, x2, x3, x4, y0, y1, y2, y3⟩ := id hcn
  have hz := hT.2.1
  have hpz : p < z := h.2.2.2.2.1
  have htp : gI m 274 11 = nI p := h.2.1 rfl
  rcases (show k = 0 ∨ k = 1 ∨ k = 2 ∨ k = 3 ∨ k = 4 ∨ k = 5 ∨ k = 6 ∨ k = 7 ∨ k = 8 ∨ k = 9 ∨ k = 10 ∨ 10 < k by omega) with rfl | rfl | rfl | rfl | rfl | rfl | rfl | rfl | rfl | rfl | rfl | hk10
  · skip
    refine go_aload_n (q := 0) (i := 0) rfl rfl dX12_tellOne_0 ?_
    refine go_getR lf12_20 rfl hx.o hx.r5 dX12_tellOne_1 ?_
    refine go_aload_n (q := 0) (i := 0) rfl rfl dX12_tellOne_4 ?_
    refine go_getI lf12_233 rfl hx.o dX12_tellOne_5 ?_
    rw [htp]
    refine go_iald (j := p) hx.i5 (by omega) (by first | decide | omega) rfl dX12_tellOne_8 ?_
    rw [(hT.k hpz).1, hk, show rk 0 = 20 from rfl]
    refine go_tswIn (off := 59) (tgt := 68) dX12_tellOne_9 (by decide) (by decide) (by decide) (by decide) ?_
    refine go_aload_n (q := 0) (i := 0) rfl rfl dX12_tellOne_68 ?_
    refine go_aload_n (q := 0) (i := 0) rfl rfl dX12_tellOne_69 ?_
    refine go_getR lf12_49 rfl hx.o hx.r24 dX12_tellOne_70 ?_
    refine go_aload_n (q := 0) (i := 0) rfl rfl dX12_tellOne_73 ?_
    refine go_getI lf12_263 rfl hx.o dX12_tellOne_74 ?_
    rw [hsd]
    refine go_iald (j := sd) hx.i24 (by omega) (by first | decide | omega) rfl dX12_tellOne_77 ?_
    rw [hU.1.2.1]
    refine go_iconst (v := nI 5) (by decide) dX12_tellOne_78 ?_
    refine go_callV okmX12_roomFor lmX12_299 ⟨nle rfl, nle rfl⟩ hx.o ⟨by decide, rfl⟩ (ex_roomFor (k := 0) (c := c) hx hT h hk (by decide) (h := D.n 1) (by omega) (mx := 5) rfl (by omega) (by decide)) npmX12_roomFor rfl (nle rfl) ⟨nle rfl, nle rfl⟩ dX12_tellOne_79 ?_
    rintro _ m1 ⟨rfl, f1, c1⟩
    have f19 := f1.2.2.2.1
    have hx := c1.wf hx
    refine go_c0 ?_
    refine go_aload_n (q := 0) (i := 0) rfl rfl dX12_tellOne_82 ?_
    refine go_getI lf12_230 rfl hx.o dX12_tellOne_83 ?_
    rw [f1.1]
    refine gz_ne (by omega) (tgt := 293) dX12_tellOne_86 (by decide) (fun h86 => ?_) (fun h86 => ?_)
    · skip
      refine go_vret rfl ⟨Nat.zero_le _, Nat.zero_le _⟩ dX12_tellOne_293 ?_
      have hne : (gTk (kG B n z) 0 (gCn 0 c (0, p))).1 ≠ 0 := by omega
      have e : gTell (kG B n z) c 0 (0, p) = (gTk (kG B n z) 0 (gCn 0 c (0, p))) := by
        show (gTk (kG B n z) 25 (gTk (kG B n z) 23 (gTk (kG B n z) 0 (gCn 0 c (0, p))))) = _
        rw [gTk_f hne, gTk_f hne]
      rw [e]
      exact ⟨rfl, f1, fun q => absurd q hne, c1.fa, hL.wv.fv (FW.fv (sd := sd) c1.fw), fun q => absurd q hne⟩
    · skip
      have hX : (gTk (kG B n z) 0 (gCn 0 c (0, p))) = (0, p + 1) := by
        have q : (gTk (kG B n z) 0 (gCn 0 c (0, p))).1 = 0 := by omega
        have a := gTk_z q
        have b := gCn_z a.1
        rw [b.1] at a
        rw [b.1]
        exact a.2.2.2
      rw [hX] at f1
      refine go_aload_n (q := 0) (i := 0) rfl rfl dX12_tellOne_89 ?_
      refine go_callV okmX12_tellRow lmX12_302 ⟨nle rfl, nle rfl⟩ hx.o ⟨by decide, rfl⟩ (ex_tellRow (c := c) (w := w) hx (c1.tk hT) f1 (hq.fq c1 (fun _ => rfl)) hpu hn hV hnm ((c1.2 19 (by decide) (by decide) (by decide)).trans hsd) hs2 (FA.u c1 hU) (fun q => ⟨FA.c c1 (hC q).1, (hC q).2⟩) hcn (fun q => Nat.lt_succ_of_lt (hw0 q)) (by have := (gCn_z (gTk_z (show (gTk (kG B n z) 0 (gCn 0 c (0, p))).1 = 0 by rw [hX])).1).2; have e5 : moO 0 = 5 := rfl; omega)) npmX12_tellRow rfl (nle rfl) ⟨nle rfl, nle rfl⟩ dX12_tellOne_90 ?_
      rintro _ m2 ⟨rfl, g1, g2, g3, g4⟩
      refine go_c0 ?_
      refine go_goto (tgt := 293) dX12_tellOne_93 (by decide) ?_
      refine go_vret rfl ⟨Nat.zero_le _, Nat.zero_le _⟩ dX12_tellOne_293 ?_
      have e : gTell (kG B n z) c 0 (0, p) = (gTk (kG B n z) 25 (gTk (kG B n z) 23 (0, p + 1))) := by
        show (gTk (kG B n z) 25 (gTk (kG B n z) 23 (gTk (kG B n z) 0 (gCn 0 c (0, p))))) = _
        rw [hX]
      have hge := gTell_ge (c := c) (k := 0) hk
      rw [e] at hge ⊢
      exact ⟨rfl, g1, g2, c1.fa.tr g3.fa, hL.wv.fv ((FW.fv c1.fw).tr g3), fun q => ⟨(g4 q).1, (g4 q).2, hL.fv ((FW.fv c1.fw).tr g3) (hge q) rfl⟩⟩
  · skip
    refine go_aload_n (q := 0) (i := 0) rfl rfl dX12_tellOne_0 ?_
    refine go_getR lf12_20 rfl hx.o hx.r5 dX12_tellOne_1 ?_
    refine go_aload_n (q := 0) (i := 0) rfl rfl dX12_tellOne_4 ?_
    refine go_getI lf12_233 rfl hx.o dX12_tellOne_5 ?_
    rw [htp]
    refine go_iald (j := p) hx.i5 (by omega) (by first | decide | omega) rfl dX12_tellOne_8 ?_
    rw [(hT.k hpz).1, hk, show rk 1 = 21 from rfl]
    refine go_tswIn (off := 87) (tgt := 96) dX12_tellOne_9 (by decide) (by decide) (by decide) (by decide) ?_
    refine go_aload_n (q := 0) (i := 0) rfl rfl dX12_tellOne_96 ?_
    refine go_aload_n (q := 0) (i := 0) rfl rfl dX12_tellOne_97 ?_
    refine go_getR lf12_58 rfl hx.o hx.r27 dX12_tellOne_98 ?_
    refine go_aload_n (q := 0) (i := 0) rfl rfl dX12_tellOne_101 ?_
    refine go_getI lf12_263 rfl hx.o dX12_tellOne_102 ?_
    rw [hsd]
    refine go_iald (j := sd) hx.i27 (by omega) (by first | decide | omega) rfl dX12_tellOne_105 ?_
    rw [hU.1.2.2.1]
    refine go_iconst (v := nI 4) (by decide) dX12_tellOne_106 ?_
    refine go_callV okmX12_roomFor lmX12_299 ⟨nle rfl, nle rfl⟩ hx.o ⟨by decide, rfl⟩ (ex_roomFor (k := 1) (c := c) hx hT h hk (by decide) (h := D.n 2) (by omega) (mx := 4) rfl (by omega) (by decide)) npmX12_roomFor rfl (nle rfl) ⟨nle rfl, nle rfl⟩ dX12_tellOne_107 ?_
    rintro _ m1 ⟨rfl, f1, c1⟩
    have f19 := f1.2.2.2.1
    have hx := c1.wf hx
    refine go_c0 ?_
    refine go_aload_n (q := 0) (i := 0) rfl rfl dX12_tellOne_110 ?_
    refine go_getI lf12_230 rfl hx.o dX12_tellOne_111 ?_
    rw [f1.1]
    refine gz_ne (by omega) (tgt := 293) dX12_tellOne_114 (by decide) (fun h114 => ?_) (fun h114 => ?_)
    · skip
      refine go_vret rfl ⟨Nat.zero_le _, Nat.zero_le _⟩ dX12_tellOne_293 ?_
      have hne : (gTk (kG B n z) 1 (gCn 1 c (0, p))).1 ≠ 0 := by omega
      have e : gTell (kG B n z) c 1 (0, p) = (gTk (kG B n z) 1 (gCn 1 c (0, p))) := by
        show (gTk (kG B n z) 25 (gTk (kG B n z) 24 (gTk (kG B n z) 24 (gTk (kG B n z) 23 (gTk (kG B n z) 1 (gCn 1 c (0, p))))))) = _
        rw [gTk_f hne, gTk_f hne, gTk_f hne, gTk_f hne]
      rw [e]
      exact ⟨rfl, f1, fun q => absurd q hne, c1.fa, hL.wv.fv (FW.fv (sd := sd) c1.fw), fun q => absurd q hne⟩
    · skip
      have hX : (gTk (kG B n z) 1 (gCn 1 c (0, p))) = (0, p + 1) := by
        have q : (gTk (kG B n z) 1 (gCn 1 c (0, p))).1 = 0 := by omega
        have a := gTk_z q
        have b := gCn_z a.1
        rw [b.1] at a
        rw [b.1]
        exact a.2.2.2
      rw [hX] at f1
      refine go_aload_n (q := 0) (i := 0) rfl rfl dX12_tellOne_117 ?_
      refine go_callV okmX12_tellHolding lmX12_305 ⟨nle rfl, nle rfl⟩ hx.o ⟨by decide, rfl⟩ (ex_tellHolding (c := c) (w := w) hx (c1.tk hT) f1 (hq.fq c1 (fun _ => rfl)) hpu hn hV hnm ((c1.2 19 (by decide) (by decide) (by decide)).trans hsd) hs2 (FA.u c1 hU) (fun q => ⟨FA.c c1 (hC q).1, (hC q).2⟩) hcn (fun q => Nat.lt_succ_of_lt (hw0 q)) (by have := (gCn_z (gTk_z (show (gTk (kG B n z) 1 (gCn 1 c (0, p))).1 = 0 by rw [hX])).1).2; have e5 : moO 1 = 4 := rfl; omega)) npmX12_tellHolding rfl (nle rfl) ⟨nle rfl, nle rfl⟩ dX12_tellOne_118 ?_
      rintro _ m2 ⟨rfl, g1, g2, g3, g4⟩
      refine go_c0 ?_
      refine go_goto (tgt := 293) dX12_tellOne_121 (by decide) ?_
      refine go_vret rfl ⟨Nat.zero_le _, Nat.zero_le _⟩ dX12_tellOne_293 ?_
      have e : gTell (kG B n z) c 1 (0, p) = (gTk (kG B n z) 25 (gTk (kG B n z) 24 (gTk (kG B n z) 24 (gTk (kG B n z) 23 (0, p + 1))))) := by
        show (gTk (kG B n z) 25 (gTk (kG B n z) 24 (gTk (kG B n z) 24 (gTk (kG B n z) 23 (gTk (kG B n z) 1 (gCn 1 c (0, p))))))) = _
        rw [hX]
      have hge := gTell_ge (c := c) (k := 1) hk
      rw [e] at hge ⊢
      exact ⟨rfl, g1, g2, c1.fa.tr g3.fa, hL.wv.fv ((FW.fv c1.fw).tr g3), fun q => ⟨(g4 q).1, (g4 q).2, hL.fv ((FW.fv c1.fw).tr g3) (hge q) rfl⟩⟩
  · skip
    refine go_aload_n (q := 0) (i := 0) rfl rfl dX12_tellOne_0 ?_
    refine go_getR lf12_20 rfl hx.o hx.r5 dX12_tellOne_1 ?_
    refine go_aload_n (q := 0) (i := 0) rfl rfl dX12_tellOne_4 ?_
    refine go_getI lf12_233 rfl hx.o dX12_tellOne_5 ?_
    rw [htp]
    refine go_iald (j := p) hx.i5 (by omega) (by first | decide | omega) rfl dX12_tellOne_8 ?_
    rw [(hT.k hpz).1, hk, show rk 2 = 22 from rfl]
    refine go_tswIn (off := 115) (tgt := 124) dX12_tellOne_9 (by decide) (by decide) (by decide) (by decide) ?_
    refine go_aload_n (q := 0) (i := 0) rfl rfl dX12_tellOne_124 ?_
    refine go_aload_n (q := 0) (i := 0) rfl rfl dX12_tellOne_125 ?_
    refine go_getR lf12_67 rfl hx.o hx.r30 dX12_tellOne_126 ?_
    refine go_aload_n (q := 0) (i := 0) rfl rfl dX12_tellOne_129 ?_
    refine go_getI lf12_263 rfl hx.o dX12_tellOne_130 ?_
    rw [hsd]
    refine go_iald (j := sd) hx.i30 (by omega) (by first | decide | omega) rfl dX12_tellOne_133 ?_
    rw [hU.1.2.2.2.1]
    refine go_bipush (v := nI 6) (by decide) dX12_tellOne_134 ?_
    refine go_callV okmX12_roomFor lmX12_299 ⟨nle rfl, nle rfl⟩ hx.o ⟨by decide, rfl⟩ (ex_roomFor (k := 2) (c := c) hx hT h hk (by decide) (h := D.n 3) (by omega) (mx := 6) rfl (by omega) (by decide)) npmX12_roomFor rfl (nle rfl) ⟨nle rfl, nle rfl⟩ dX12_tellOne_136 ?_
    rintro _ m1 ⟨rfl, f1, c1⟩
    have f19 := f1.2.2.2.1
    have hx := c1.wf hx
    refine go_c0 ?_
    refine go_aload_n (q := 0) (i := 0) rfl rfl dX12_tellOne_139 ?_
    refine go_getI lf12_230 rfl hx.o dX12_tellOne_140 ?_
    rw [f1.1]
    refine gz_ne (by omega) (tgt := 293) dX12_tellOne_143 (by decide) (fun h143 => ?_) (fun h143 => ?_)
    · skip
      refine go_vret rfl ⟨Nat.zero_le _, Nat.zero_le _⟩ dX12_tellOne_293 ?_
      have hne : (gTk (kG B n z) 2 (gCn 2 c (0, p))).1 ≠ 0 := by omega
      have e : gTell (kG B n z) c 2 (0, p) = (gTk (kG B n z) 2 (gCn 2 c (0, p))) := by
        show (gTk (kG B n z) 25 (gTk (kG B n z) 24 (gTk (kG B n z) 24 (gTk (kG B n z) 24 (gTk (kG B n z) 23 (gTk (kG B n z) 23 (gTk (kG B n z) 2 (gCn 2 c (0, p))))))))) = _
        rw [gTk_f hne, gTk_f hne, gTk_f hne, gTk_f hne, gTk_f hne, gTk_f hne]
      rw [e]
      exact ⟨rfl, f1, fun q => absurd q hne, c1.fa, hL.wv.fv (FW.fv (sd := sd) c1.fw), fun q => absurd q hne⟩
    · skip
      have hX : (gTk (kG B n z) 2 (gCn 2 c (0, p))) = (0, p + 1) := by
        have q : (gTk (kG B n z) 2 (gCn 2 c (0, p))).1 = 0 := by omega
        have a := gTk_z q
        have b := gCn_z a.1
        rw [b.1] at a
        rw [b.1]
        exact a.2.2.2
      rw [hX] at f1
      refine go_aload_n (q := 0) (i := 0) rfl rfl dX12_tellOne_146 ?_
      refine go_callV okmX12_tellUse lmX12_308 ⟨nle rfl, nle rfl⟩ hx.o ⟨by decide, rfl⟩ (ex_tellUse (c := c) (w := w) hx (c1.tk hT) f1 (hq.fq c1 (fun _ => rfl)) hpu hn hV hnm ((c1.2 19 (by decide) (by decide) (by decide)).trans hsd) hs2 (FA.u c1 hU) (fun q => ⟨FA.c c1 (hC q).1, (hC q).2⟩) hcn (fun q => Nat.lt_succ_of_lt (hw0 q)) (by have := (gCn_z (gTk_z (show (gTk (kG B n z) 2 (gCn 2 c (0, p))).1 = 0 by rw [hX])).1).2; have e5 : moO 2 = 6 := rfl; omega)) npmX12_tellUse rfl (nle rfl) ⟨nle rfl, nle rfl⟩ dX12_tellOne_147 ?_
      rintro _ m2 ⟨rfl, g1, g2, g3, g4⟩
      refine go_c0 ?_
      refine go_goto (tgt := 293) dX12_tellOne_150 (by decide) ?_
      refine go_vret rfl ⟨Nat.zero_le _, Nat.zero_le _⟩ dX12_tellOne_293 ?_
      have e : gTell (kG B n z) c 2 (0, p) = (gTk (kG B n z) 25 (gTk (kG B n z) 24 (gTk (kG B n z) 24 (gTk (kG B n z) 24 (gTk (kG B n z) 23 (gTk (kG B n z) 23 (0, p + 1))))))) := by
        show (gTk (kG B n z) 25 (gTk (kG B n z) 24 (gTk (kG B n z) 24 (gTk (kG B n z) 24 (gTk (kG B n z) 23 (gTk (kG B n z) 23 (gTk (kG B n z) 2 (gCn 2 c (0, p))))))))) = _
        rw [hX]
      have hge := gTell_ge (c := c) (k := 2) hk
      rw [e] at hge ⊢
      exact ⟨rfl, g1, g2, c1.fa.tr g3.fa, hL.wv.fv ((FW.fv c1.fw).tr g3), fun q => ⟨(g4 q).1, (g4 q).2, hL.fv ((FW.fv c1.fw).tr g3) (hge q) rfl⟩⟩
  · skip
    refine go_aload_n (q := 0) (i := 0) rfl rfl dX12_tellOne_0 ?_
    refine go_getR lf12_20 rfl hx.o hx.r5 dX12_tellOne_1 ?_
    refine go_aload_n (q := 0) (i := 0) rfl rfl dX12_tellOne_4 ?_
    refine go_getI lf12_233 rfl hx.o dX12_tellOne_5 ?_
    rw [htp]
    refine go_iald (j := p) hx.i5 (by omega) (by first | decide | omega) rfl dX12_tellOne_8 ?_
    rw [(hT.k hpz).1, hk, show rk 3 = 23 from rfl]
    refine go_tswIn (off := 144) (tgt := 153) dX12_tellOne_9 (by decide) (by decide) (by decide) (by decide) ?_
    refine go_aload_n (q := 0) (i := 0) rfl rfl dX12_tellOne_153 ?_
    refine go_aload_n (q := 0) (i := 0) rfl rfl dX12_tellOne_154 ?_
    refine go_getR lf12_82 rfl hx.o hx.r35 dX12_tellOne_155 ?_
    refine go_aload_n (q := 0) (i := 0) rfl rfl dX12_tellOne_158 ?_
    refine go_getI lf12_263 rfl hx.o dX12_tellOne_159 ?_
    rw [hsd]
    refine go_iald (j := sd) hx.i35 (by omega) (by first | decide | omega) rfl dX12_tellOne_162 ?_
    rw [hU.1.2.2.2.2]
    refine go_bipush (v := nI 12) (by decide) dX12_tellOne_163 ?_
    refine go_callV okmX12_roomFor lmX12_299 ⟨nle rfl, nle rfl⟩ hx.o ⟨by decide, rfl⟩ (ex_roomFor (k := 3) (c := c) hx hT h hk (by decide) (h := D.n 4) (by omega) (mx := 12) rfl (by omega) (by decide)) npmX12_roomFor rfl (nle rfl) ⟨nle rfl, nle rfl⟩ dX12_tellOne_165 ?_
    rintro _ m1 ⟨rfl, f1, c1⟩
    have f19 := f1.2.2.2.1
    have hx := c1.wf hx
    refine go_c0 ?_
    refine go_aload_n (q := 0) (i := 0) rfl rfl dX12_tellOne_168 ?_
    refine go_getI lf12_230 rfl hx.o dX12_tellOne_169 ?_
    rw [f1.1]
    refine gz_ne (by omega) (tgt := 293) dX12_tellOne_172 (by decide) (fun h172 => ?_) (fun h172 => ?_)
    · skip
      refine go_vret rfl ⟨Nat.zero_le _, Nat.zero_le _⟩ dX12_tellOne_293 ?_
      have hne : (gTk (kG B n z) 3 (gCn 3 c (0, p))).1 ≠ 0 := by omega
      have e : gTell (kG B n z) c 3 (0, p) = (gTk (kG B n z) 3 (gCn 3 c (0, p))) := by
        show (gTk (kG B n z) 25 (gTk (kG B n z) 24 (gTk (kG B n z) 24 (gTk (kG B n z) 24 (gTk (kG B n z) 3 (gCn 3 c (0, p))))))) = _
        rw [gTk_f hne, gTk_f hne, gTk_f hne, gTk_f hne]
      rw [e]
      exact ⟨rfl, f1, fun q => absurd q hne, c1.fa, hL.wv.fv (FW.fv (sd := sd) c1.fw), fun q => absurd q hne⟩
    · skip
      have hX : (gTk (kG B n z) 3 (gCn 3 c (0, p))) = (0, p + 1) := by
        have q : (gTk (kG B n z) 3 (gCn 3 c (0, p))).1 = 0 := by omega
        have a := gTk_z q
        have b := gCn_z a.1
        rw [b.1] at a
        rw [b.1]
        exact a.2.2.2
      rw [hX] at f1
      refine go_aload_n (q := 0) (i := 0) rfl rfl dX12_tellOne_175 ?_
      refine go_callV okmX12_tellBank lmX12_311 ⟨nle rfl, nle rfl⟩ hx.o ⟨by decide, rfl⟩ (ex_tellBank (c := c) (w := w) hx (c1.tk hT) f1 (hq.fq c1 (fun _ => rfl)) hpu hn hV hnm ((c1.2 19 (by decide) (by decide) (by decide)).trans hsd) hs2 (FA.u c1 hU) (fun q => ⟨FA.c c1 (hC q).1, (hC q).2⟩) hcn (fun q => Nat.lt_succ_of_lt (hw0 q)) (by have := (gCn_z (gTk_z (show (gTk (kG B n z) 3 (gCn 3 c (0, p))).1 = 0 by rw [hX])).1).2; have e5 : moO 3 = 12 := rfl; omega)) npmX12_tellBank rfl (nle rfl) ⟨nle rfl, nle rfl⟩ dX12_tellOne_176 ?_
      rintro _ m2 ⟨rfl, g1, g2, g3, g4⟩
      refine go_c0 ?_
      refine go_goto (tgt := 293) dX12_tellOne_179 (by decide) ?_
      refine go_vret rfl ⟨Nat.zero_le _, Nat.zero_le _⟩ dX12_tellOne_293 ?_
      have e : gTell (kG B n z) c 3 (0, p) = (gTk (kG B n z) 25 (gTk (kG B n z) 24 (gTk (kG B n z) 24 (gTk (kG B n z) 24 (0, p + 1))))) := by
        show (gTk (kG B n z) 25 (gTk (kG B n z) 24 (gTk (kG B n z) 24 (gTk (kG B n z) 24 (gTk (kG B n z) 3 (gCn 3 c (0, p))))))) = _
        rw [hX]
      have hge := gTell_ge (c := c) (k := 3) hk
      rw [e] at hge ⊢
      exact ⟨rfl, g1, g2, c1.fa.tr g3.fa, hL.wv.fv ((FW.fv c1.fw).tr g3), fun q => ⟨(g4 q).1, (g4 q).2, hL.fv ((FW.fv c1.fw).tr g3) (hge q) rfl⟩⟩
  · skip
    obtain ⟨C, Wt, b, l0, l1, l2, l3, l4, l5, l6, l7⟩ := hL
    refine go_aload_n (q := 0) (i := 0) rfl rfl dX12_tellOne_0 ?_
    refine go_getR lf12_20 rfl hx.o hx.r5 dX12_tellOne_1 ?_
    refine go_aload_n (q := 0) (i := 0) rfl rfl dX12_tellOne_4 ?_
    refine go_getI lf12_233 rfl hx.o dX12_tellOne_5 ?_
    rw [htp]
    refine go_iald (j := p) hx.i5 (by omega) (by first | decide | omega) rfl dX12_tellOne_8 ?_
    rw [(hT.k hpz).1, hk, show rk 4 = 24 from rfl]
    refine go_tswIn (off := 231) (tgt := 240) dX12_tellOne_9 (by decide) (by decide) (by decide) (by decide) ?_
    refine go_aload_n (q := 0) (i := 0) rfl rfl dX12_tellOne_240 ?_
    refine go_getR lf12_20 rfl hx.o hx.r5 dX12_tellOne_241 ?_
    refine go_aload_n (q := 0) (i := 0) rfl rfl dX12_tellOne_244 ?_
    refine go_getI lf12_233 rfl hx.o dX12_tellOne_245 ?_
    rw [htp]
    refine go_iald (j := p) hx.i5 (by omega) (by first | decide | omega) rfl dX12_tellOne_248 ?_
    rw [(hT.k hpz).1, hk, show rk 4 = 24 from rfl]
    refine go_bipush (v := nI 24) (by decide) dX12_tellOne_249 ?_
    refine gn_sub (by omega) dX12_tellOne_251 ?_
    rw [show 24 - 24 = 0 from rfl]
    refine go_istore_n (q := 1) (i := 1) rfl dX12_tellOne_252 (nle rfl) (nle rfl) ?_
    refine go_iload_n (q := 1) (i := 1) rfl rfl dX12_tellOne_253 ?_
    refine gz_lt (by omega) (tgt := 271) dX12_tellOne_254 (by decide) (fun h254 => by exfalso; omega) (fun h254 => ?_)
    refine go_aload_n (q := 0) (i := 0) rfl rfl dX12_tellOne_257 ?_
    refine go_getR lf12_20 rfl hx.o hx.r5 dX12_tellOne_258 ?_
    refine go_aload_n (q := 0) (i := 0) rfl rfl dX12_tellOne_261 ?_
    refine go_getI lf12_233 rfl hx.o dX12_tellOne_262 ?_
    rw [htp]
    refine go_iald (j := p) hx.i5 (by omega) (by first | decide | omega) rfl dX12_tellOne_265 ?_
    rw [(hT.k hpz).1, hk, show rk 4 = 24 from rfl]
    refine go_bipush (v := nI 27) (by decide) dX12_tellOne_266 ?_
    refine gn_le (by omega) (by omega) (tgt := 276) dX12_tellOne_268 (by decide) (fun h268 => ?_) (fun h268 => by exfalso; omega)
    refine go_aload_n (q := 0) (i := 0) rfl rfl dX12_tellOne_276 ?_
    refine go_getI lf12_230 rfl hx.o dX12_tellOne_277 ?_
    rw [h.1]
    refine gz_le (by omega) (tgt := 284) dX12_tellOne_280 (by decide) (fun h280 => ?_) (fun h280 => by exfalso; omega)
    refine go_aload_n (q := 0) (i := 0) rfl rfl dX12_tellOne_284 ?_
    refine go_callV okmX12_goesOn lmX12_251 ⟨nle rfl, nle rfl⟩ hx.o ⟨by decide, rfl⟩ (ex_goesOn hx hT h (fun b hb hm2 => by rw [show b = p from nI_i (hm2.symm.trans htp) (by omega) (by omega), hk]; decide)) npmX12_goesOn rfl (nle rfl) ⟨nle rfl, nle rfl⟩ dX12_tellOne_285 ?_
    rintro _ m1 ⟨rfl, f1, c1⟩
    rw [gGo_t (K := kG B n z) (k := 4) (fun _ => hk)] at f1
    have hx := c1.wf hx
    have e1 : ∀ x, 303 ≤ x → x ≤ 312 → gI m1 x = gI m x := fun x a b => c1.1.at (by omega)
    have l7' : ∀ k, k < 4 → (gI m1 303 (4 * sd + k) = nI 0 ∧ gI m1 304 (4 * sd + k) = nI 0 ∧ D.l k = deL k) ∨ ∃ b0, 130 * sd ≤ b0 ∧ b0 + (D.l k).1.length + 1 ≤ b ∧ gI m1 303 (4 * sd + k) = nI b0 ∧ gI m1 304 (4 * sd + k) = nI (b0 + (D.l k).1.length + 1) ∧ LwA m1 (420 * sd) C b0 (D.l k).1 (D.l k).2 := fun k hk => by
      rw [e1 303 (by decide) (by decide), e1 304 (by decide) (by decide)]
      rcases l7 k hk with h | ⟨b0, a1, a2, a3, a4, a5⟩
      · exact Or.inl h
      · exact Or.inr ⟨b0, a1, a2, a3, a4, LwA.keep (fun _ _ a => a) _ b0 a5 (fun y r _ _ a d => by rw [e1 r (by omega) (by omega)])⟩
    have hXB : XB (420 * sd) B n z m1 m1 (gTk (kG B n z) 4 (0, p)) Wt C := ⟨hx, c1.tk hT, f1, l0.fq c1, Fr.rf, by omega⟩
    have hs2p : (gTk (kG B n z) 4 (0, p)).1 = 0 → (gTk (kG B n z) 4 (0, p)).2 = p + 1 := fun q => by rw [(gTk_z q).2.2.2]
    refine go_c0 ?_
    refine go_aload_n (q := 0) (i := 0) rfl rfl dX12_tellOne_288 ?_
    refine go_iload_n (q := 1) (i := 1) rfl rfl dX12_tellOne_289 ?_
    refine go_callV okmX12_tellLaw lmX12_317 ⟨nle rfl, nle rfl⟩ hx.o ⟨by decide, rfl⟩ (ex_tellLaw (k := 0) (b := b) (sd := sd) hV ((c1.2 19 (by decide) (by decide) (by decide)).trans hsd) hs2 (by decide) l4 (by omega) hXB (fun _ => (c1.2 12 (by decide) (by decide) (by decide)).trans l6) (fun q => by rw [hs2p q]; omega) l2 ((c1.2 44 (by decide) (by decide) (by decide)).trans l3) (fun q => by rw [hs2p q]; omega)) npmX12_tellLaw rfl (nle rfl) ⟨nle rfl, nle rfl⟩ dX12_tellOne_290 ?_
    rintro _ m2 ⟨rfl, W', D', b', g1, g2, g3, g4, g4b, g5, g6⟩
    refine go_c0 ?_
    refine go_vret rfl ⟨Nat.zero_le _, Nat.zero_le _⟩ dX12_tellOne_293 ?_
    rw [gTell_l (by decide), teW_l (by decide), teD_l (by decide)]
    have e2 : (gTk (kG B n z) 4 (0, p)).1 = 0 → (gTk (kG B n z) 4 (0, p)).2 + 1 = p + 2 := fun q => by rw [(gTk_z q).2.2.2]
    refine ⟨rfl, g1.g, fun q => ?_, c1.fa.tr (g2.fa (by omega) (by decide)), g1.r.wv (by omega), fun z0 => ⟨?_, fun w0 => ?_, ?_⟩⟩
    · have hq1 := hq.fq c1 (s' := (gTk (kG B n z) 4 (0, p))) (fun _ => rfl)
      rw [g2.2.1 15 (by decide) (by decide) (by decide) (by decide) (by decide) (by decide) (by decide), g2.2.1 16 (by decide) (by decide) (by decide) (by decide) (by decide) (by decide) (by decide)]
      refine hq1 ?_
      have z1 := gS_z (gTk_s q)
      exact gTk_s (gIfs_z z1)
    · exact RdU.lw ((FA.u c1 hU).fv (fun x a b => g2.1.at (by omega)) (g2.2.1 20 (by decide) (by decide) (by decide) (by decide) (by decide) (by decide) (by decide)))
    · exact RdC.lw ((FA.c c1 (hC w0).1).fv (fun x a b => g2.1.at (by omega)) (g2.1.aj (fun a => a)))
    · have z1 : (gTk (kG B n z) 4 (0, p)).1 = 0 := gTk_s (gIfs_z (gS_z (gTk_s z0)))
      have gf := g6 _ (pr_z z0)
      rw [e2 z1] at gf
      exact LwI.law (C := C) (by decide) l4 l7' g1.r g2 g3 g4 g5 gf
  · skip
    obtain ⟨C, Wt, b, l0, l1, l2, l3, l4, l5, l6, l7⟩ := hL
    refine go_aload_n (q := 0) (i := 0) rfl rfl dX12_tellOne_0 ?_
    refine go_getR lf12_20 rfl hx.o hx.r5 dX12_tellOne_1 ?_
    refine go_aload_n (q := 0) (i := 0) rfl rfl dX12_tellOne_4 ?_
    refine go_getI lf12_233 rfl hx.o dX12_tellOne_5 ?_
    rw [htp]
    refine go_iald (j := p) hx.i5 (by omega) (by first | decide | omega) rfl dX12_tellOne_8 ?_
    rw [(hT.k hpz).1, hk, show rk 5 = 25 from rfl]
    refine go_tswIn (off := 231) (tgt := 240) dX12_tellOne_9 (by decide) (by decide) (by decide) (by decide) ?_
    refine go_aload_n (q := 0) (i := 0) rfl rfl dX12_tellOne_240 ?_
    refine go_getR lf12_20 rfl hx.o hx.r5 dX12_tellOne_241 ?_
    refine go_aload_n (q := 0) (i := 0) rfl rfl dX12_tellOne_244 ?_
    refine go_getI lf12_233 rfl hx.o dX12_tellOne_245 ?_
    rw [htp]
    refine go_iald (j := p) hx.i5 (by omega) (by first | decide | omega) rfl dX12_tellOne_248 ?_
    rw [(hT.k hpz).1, hk, show rk 5 = 25 from rfl]
    refine go_bipush (v := nI 24) (by decide) dX12_tellOne_249 ?_
    refine gn_sub (by omega) dX12_tellOne_251 ?_
    rw [show 25 - 24 = 1 from rfl]
    refine go_istore_n (q := 1) (i := 1) rfl dX12_tellOne_252 (nle rfl) (nle rfl) ?_
    refine go_iload_n (q := 1) (i := 1) rfl rfl dX12_tellOne_253 ?_
    refine gz_lt (by omega) (tgt := 271) dX12_tellOne_254 (by decide) (fun h254 => by exfalso; omega) (fun h254 => ?_)
    refine go_aload_n (q := 0) (i := 0) rfl rfl dX12_tellOne_257 ?_
    refine go_getR lf12_20 rfl hx.o hx.r5 dX12_tellOne_258 ?_
    refine go_aload_n (q := 0) (i := 0) rfl rfl dX12_tellOne_261 ?_
    refine go_getI lf12_233 rfl hx.o dX12_tellOne_262 ?_
    rw [htp]
    refine go_iald (j := p) hx.i5 (by omega) (by first | decide | omega) rfl dX12_tellOne_265 ?_
    rw [(hT.k hpz).1, hk, show rk 5 = 25 from rfl]
    refine go_bipush (v := nI 27) (by decide) dX12_tellOne_266 ?_
    refine gn_le (by omega) (by omega) (tgt := 276) dX12_tellOne_268 (by decide) (fun h268 => ?_) (fun h268 => by exfalso; omega)
    refine go_aload_n (q := 0) (i := 0) rfl rfl dX12_tellOne_276 ?_
    refine go_getI lf12_230 rfl hx.o dX12_tellOne_277 ?_
    rw [h.1]
    refine gz_le (by omega) (tgt := 284) dX12_tellOne_280 (by decide) (fun h280 => ?_) (fun h280 => by exfalso; omega)
    refine go_aload_n (q := 0) (i := 0) rfl rfl dX12_tellOne_284 ?_
    refine go_callV okmX12_goesOn lmX12_251 ⟨nle rfl, nle rfl⟩ hx.o ⟨by decide, rfl⟩ (ex_goesOn hx hT h (fun b hb hm2 => by rw [show b = p from nI_i (hm2.symm.trans htp) (by omega) (by omega), hk]; decide)) npmX12_goesOn rfl (nle rfl) ⟨nle rfl, nle rfl⟩ dX12_tellOne_285 ?_
    rintro _ m1 ⟨rfl, f1, c1⟩
    rw [gGo_t (K := kG B n z) (k := 5) (fun _ => hk)] at f1
    have hx := c1.wf hx
    have e1 : ∀ x, 303 ≤ x → x ≤ 312 → gI m1 x = gI m x := fun x a b => c1.1.at (by omega)
    have l7' : ∀ k, k < 4 → (gI m1 303 (4 * sd + k) = nI 0 ∧ gI m1 304 (4 * sd + k) = nI 0 ∧ D.l k = deL k) ∨ ∃ b0, 130 * sd ≤ b0 ∧ b0 + (D.l k).1.length + 1 ≤ b ∧ gI m1 303 (4 * sd + k) = nI b0 ∧ gI m1 304 (4 * sd + k) = nI (b0 + (D.l k).1.length + 1) ∧ LwA m1 (420 * sd) C b0 (D.l k).1 (D.l k).2 := fun k hk => by
      rw [e1 303 (by decide) (by decide), e1 304 (by decide) (by decide)]
      rcases l7 k hk with h | ⟨b0, a1, a2, a3, a4, a5⟩
      · exact Or.inl h
      · exact Or.inr ⟨b0, a1, a2, a3, a4, LwA.keep (fun _ _ a => a) _ b0 a5 (fun y r _ _ a d => by rw [e1 r (by omega) (by omega)])⟩
    have hXB : XB (420 * sd) B n z m1 m1 (gTk (kG B n z) 5 (0, p)) Wt C := ⟨hx, c1.tk hT, f1, l0.fq c1, Fr.rf, by omega⟩
    have hs2p : (gTk (kG B n z) 5 (0, p)).1 = 0 → (gTk (kG B n z) 5 (0, p)).2 = p + 1 := fun q => by rw [(gTk_z q).2.2.2]
    refine go_c0 ?_
    refine go_aload_n (q := 0) (i := 0) rfl rfl dX12_tellOne_288 ?_
    refine go_iload_n (q := 1) (i := 1) rfl rfl dX12_tellOne_289 ?_
    refine go_callV okmX12_tellLaw lmX12_317 ⟨nle rfl, nle rfl⟩ hx.o ⟨by decide, rfl⟩ (ex_tellLaw (k := 1) (b := b) (sd := sd) hV ((c1.2 19 (by decide) (by decide) (by decide)).trans hsd) hs2 (by decide) l4 (by omega) hXB (fun _ => (c1.2 12 (by decide) (by decide) (by decide)).trans l6) (fun q => by rw [hs2p q]; omega) l2 ((c1.2 44 (by decide) (by decide) (by decide)).trans l3) (fun q => by rw [hs2p q]; omega)) npmX12_tellLaw rfl (nle rfl) ⟨nle rfl, nle rfl⟩ dX12_tellOne_290 ?_
    rintro _ m2 ⟨rfl, W', D', b', g1, g2, g3, g4, g4b, g5, g6⟩
    refine go_c0 ?_
    refine go_vret rfl ⟨Nat.zero_le _, Nat.zero_le _⟩ dX12_tellOne_293 ?_
    rw [gTell_l (by decide), teW_l (by decide), teD_l (by decide)]
    have e2 : (gTk (kG B n z) 5 (0, p)).1 = 0 → (gTk (kG B n z) 5 (0, p)).2 + 1 = p + 2 := fun q => by rw [(gTk_z q).2.2.2]
    refine ⟨rfl, g1.g, fun q => ?_, c1.fa.tr (g2.fa (by omega) (by decide)), g1.r.wv (by omega), fun z0 => ⟨?_, fun w0 => ?_, ?_⟩⟩
    · have hq1 := hq.fq c1 (s' := (gTk (kG B n z) 5 (0, p))) (fun _ => rfl)
      rw [g2.2.1 15 (by decide) (by decide) (by decide) (by decide) (by decide) (by decide) (by decide), g2.2.1 16 (by decide) (by decide) (by decide) (by decide) (by decide) (by decide) (by decide)]
      refine hq1 ?_
      have z1 := gS_z (gTk_s q)
      exact gTk_s (gIfs_z z1)
    · exact RdU.lw ((FA.u c1 hU).fv (fun x a b => g2.1.at (by omega)) (g2.2.1 20 (by decide) (by decide) (by decide) (by decide) (by decide) (by decide) (by decide)))
    · exact RdC.lw ((FA.c c1 (hC w0).1).fv (fun x a b => g2.1.at (by omega)) (g2.1.aj (fun a => a)))
    · have z1 : (gTk (kG B n z) 5 (0, p)).1 = 0 := gTk_s (gIfs_z (gS_z (gTk_s z0)))
      have gf := g6 _ (pr_z z0)
      rw [e2 z1] at gf
      exact LwI.law (C := C) (by decide) l4 l7' g1.r g2 g3 g4 g5 gf
  · skip
    obtain ⟨C, Wt, b, l0, l1, l2, l3, l4, l5, l6, l7⟩ := hL
    refine go_aload_n (q := 0) (i := 0) rfl rfl dX12_tellOne_0 ?_
    refine go_getR lf12_20 rfl hx.o hx.r5 dX12_tellOne_1 ?_
    refine go_aload_n (q := 0) (i := 0) rfl rfl dX12_tellOne_4 ?_
    refine go_getI lf12_233 rfl hx.o dX12_tellOne_5 ?_
    rw [htp]
    refine go_iald (j := p) hx.i5 (by omega) (by first | decide | omega) rfl dX12_tellOne_8 ?_
    rw [(hT.k hpz).1, hk, show rk 6 = 26 from rfl]
    refine go_tswIn (off := 231) (tgt := 240) dX12_tellOne_9 (by decide) (by decide) (by decide) (by decide) ?_
    refine go_aload_n (q := 0) (i := 0) rfl rfl dX12_tellOne_240 ?_
    refine go_getR lf12_20 rfl hx.o hx.r5 dX12_tellOne_241 ?_
    refine go_aload_n (q := 0) (i := 0) rfl rfl dX12_tellOne_244 ?_
    refine go_getI lf12_233 rfl hx.o dX12_tellOne_245 ?_
    rw [htp]
    refine go_iald (j := p) hx.i5 (by omega) (by first | decide | omega) rfl dX12_tellOne_248 ?_
    rw [(hT.k hpz).1, hk, show rk 6 = 26 from rfl]
    refine go_bipush (v := nI 24) (by decide) dX12_tellOne_249 ?_
    refine gn_sub (by omega) dX12_tellOne_251 ?_
    rw [show 26 - 24 = 2 from rfl]
    refine go_istore_n (q := 1) (i := 1) rfl dX12_tellOne_252 (nle rfl) (nle rfl) ?_
    refine go_iload_n (q := 1) (i := 1) rfl rfl dX12_tellOne_253 ?_
    refine gz_lt (by omega) (tgt := 271) dX12_tellOne_254 (by decide) (fun h254 => by exfalso; omega) (fun h254 => ?_)
    refine go_aload_n (q := 0) (i := 0) rfl rfl dX12_tellOne_257 ?_
    refine go_getR lf12_20 rfl hx.o hx.r5 dX12_tellOne_258 ?_
    refine go_aload_n (q := 0) (i := 0) rfl rfl dX12_tellOne_261 ?_
    refine go_getI lf12_233 rfl hx.o dX12_tellOne_262 ?_
    rw [htp]
    refine go_iald (j := p) hx.i5 (by omega) (by first | decide | omega) rfl dX12_tellOne_265 ?_
    rw [(hT.k hpz).1, hk, show rk 6 = 26 from rfl]
    refine go_bipush (v := nI 27) (by decide) dX12_tellOne_266 ?_
    refine gn_le (by omega) (by omega) (tgt := 276) dX12_tellOne_268 (by decide) (fun h268 => ?_) (fun h268 => by exfalso; omega)
    refine go_aload_n (q := 0) (i := 0) rfl rfl dX12_tellOne_276 ?_
    refine go_getI lf12_230 rfl hx.o dX12_tellOne_277 ?_
    rw [h.1]
    refine gz_le (by omega) (tgt := 284) dX12_tellOne_280 (by decide) (fun h280 => ?_) (fun h280 => by exfalso; omega)
    refine go_aload_n (q := 0) (i := 0) rfl rfl dX12_tellOne_284 ?_
    refine go_callV okmX12_goesOn lmX12_251 ⟨nle rfl, nle rfl⟩ hx.o ⟨by decide, rfl⟩ (ex_goesOn hx hT h (fun b hb hm2 => by rw [show b = p from nI_i (hm2.symm.trans htp) (by omega) (by omega), hk]; decide)) npmX12_goesOn rfl (nle rfl) ⟨nle rfl, nle rfl⟩ dX12_tellOne_285 ?_
    rintro _ m1 ⟨rfl, f1, c1⟩
    rw [gGo_t (K := kG B n z) (k := 6) (fun _ => hk)] at f1
    have hx := c1.wf hx
    have e1 : ∀ x, 303 ≤ x → x ≤ 312 → gI m1 x = gI m x := fun x a b => c1.1.at (by omega)
    have l7' : ∀ k, k < 4 → (gI m1 303 (4 * sd + k) = nI 0 ∧ gI m1 304 (4 * sd + k) = nI 0 ∧ D.l k = deL k) ∨ ∃ b0, 130 * sd ≤ b0 ∧ b0 + (D.l k).1.length + 1 ≤ b ∧ gI m1 303 (4 * sd + k) = nI b0 ∧ gI m1 304 (4 * sd + k) = nI (b0 + (D.l k).1.length + 1) ∧ LwA m1 (420 * sd) C b0 (D.l k).1 (D.l k).2 := fun k hk => by
      rw [e1 303 (by decide) (by decide), e1 304 (by decide) (by decide)]
      rcases l7 k hk with h | ⟨b0, a1, a2, a3, a4, a5⟩
      · exact Or.inl h
      · exact Or.inr ⟨b0, a1, a2, a3, a4, LwA.keep (fun _ _ a => a) _ b0 a5 (fun y r _ _ a d => by rw [e1 r (by omega) (by omega)])⟩
    have hXB : XB (420 * sd) B n z m1 m1 (gTk (kG B n z) 6 (0, p)) Wt C := ⟨hx, c1.tk hT, f1, l0.fq c1, Fr.rf, by omega⟩
    have hs2p : (gTk (kG B n z) 6 (0, p)).1 = 0 → (gTk (kG B n z) 6 (0, p)).2 = p + 1 := fun q => by rw [(gTk_z q).2.2.2]
    refine go_c0 ?_
    refine go_aload_n (q := 0) (i := 0) rfl rfl dX12_tellOne_288 ?_
    refine go_iload_n (q := 1) (i := 1) rfl rfl dX12_tellOne_289 ?_
    refine go_callV okmX12_tellLaw lmX12_317 ⟨nle rfl, nle rfl⟩ hx.o ⟨by decide, rfl⟩ (ex_tellLaw (k := 2) (b := b) (sd := sd) hV ((c1.2 19 (by decide) (by decide) (by decide)).trans hsd) hs2 (by decide) l4 (by omega) hXB (fun _ => (c1.2 12 (by decide) (by decide) (by decide)).trans l6) (fun q => by rw [hs2p q]; omega) l2 ((c1.2 44 (by decide) (by decide) (by decide)).trans l3) (fun q => by rw [hs2p q]; omega)) npmX12_tellLaw rfl (nle rfl) ⟨nle rfl, nle rfl⟩ dX12_tellOne_290 ?_
    rintro _ m2 ⟨rfl, W', D', b', g1, g2, g3, g4, g4b, g5, g6⟩
    refine go_c0 ?_
    refine go_vret rfl ⟨Nat.zero_le _, Nat.zero_le _⟩ dX12_tellOne_293 ?_
    rw [gTell_l (by decide), teW_l (by decide), teD_l (by decide)]
    have e2 : (gTk (kG B n z) 6 (0, p)).1 = 0 → (gTk (kG B n z) 6 (0, p)).2 + 1 = p + 2 := fun q => by rw [(gTk_z q).2.2.2]
    refine ⟨rfl, g1.g, fun q => ?_, c1.fa.tr (g2.fa (by omega) (by decide)), g1.r.wv (by omega), fun z0 => ⟨?_, fun w0 => ?_, ?_⟩⟩
    · have hq1 := hq.fq c1 (s' := (gTk (kG B n z) 6 (0, p))) (fun _ => rfl)
      rw [g2.2.1 15 (by decide) (by decide) (by decide) (by decide) (by decide) (by decide) (by decide), g2.2.1 16 (by decide) (by decide) (by decide) (by decide) (by decide) (by decide) (by decide)]
      refine hq1 ?_
      have z1 := gS_z (gTk_s q)
      exact gTk_s (gIfs_z z1)
    · exact RdU.lw ((FA.u c1 hU).fv (fun x a b => g2.1.at (by omega)) (g2.2.1 20 (by decide) (by decide) (by decide) (by decide) (by decide) (by decide) (by decide)))
    · exact RdC.lw ((FA.c c1 (hC w0).1).fv (fun x a b => g2.1.at (by omega)) (g2.1.aj (fun a => a)))
    · have z1 : (gTk (kG B n z) 6 (0, p)).1 = 0 := gTk_s (gIfs_z (gS_z (gTk_s z0)))
      have gf := g6 _ (pr_z z0)
      rw [e2 z1] at gf
      exact LwI.law (C := C) (by decide) l4 l7' g1.r g2 g3 g4 g5 gf
  · skip
    obtain ⟨C, Wt, b, l0, l1, l2, l3, l4, l5, l6, l7⟩ := hL
    refine go_aload_n (q := 0) (i := 0) rfl rfl dX12_tellOne_0 ?_
    refine go_getR lf12_20 rfl hx.o hx.r5 dX12_tellOne_1 ?_
    refine go_aload_n (q := 0) (i := 0) rfl rfl dX12_tellOne_4 ?_
    refine go_getI lf12_233 rfl hx.o dX12_tellOne_5 ?_
    rw [htp]
    refine go_iald (j := p) hx.i5 (by omega) (by first | decide | omega) rfl dX12_tellOne_8 ?_
    rw [(hT.k hpz).1, hk, show rk 7 = 27 from rfl]
    refine go_tswIn (off := 231) (tgt := 240) dX12_tellOne_9 (by decide) (by decide) (by decide) (by decide) ?_
    refine go_aload_n (q := 0) (i := 0) rfl rfl dX12_tellOne_240 ?_
    refine go_getR lf12_20 rfl hx.o hx.r5 dX12_tellOne_241 ?_
    refine go_aload_n (q := 0) (i := 0) rfl rfl dX12_tellOne_244 ?_
    refine go_getI lf12_233 rfl hx.o dX12_tellOne_245 ?_
    rw [htp]
    refine go_iald (j := p) hx.i5 (by omega) (by first | decide | omega) rfl dX12_tellOne_248 ?_
    rw [(hT.k hpz).1, hk, show rk 7 = 27 from rfl]
    refine go_bipush (v := nI 24) (by decide) dX12_tellOne_249 ?_
    refine gn_sub (by omega) dX12_tellOne_251 ?_
    rw [show 27 - 24 = 3 from rfl]
    refine go_istore_n (q := 1) (i := 1) rfl dX12_tellOne_252 (nle rfl) (nle rfl) ?_
    refine go_iload_n (q := 1) (i := 1) rfl rfl dX12_tellOne_253 ?_
    refine gz_lt (by omega) (tgt := 271) dX12_tellOne_254 (by decide) (fun h254 => by exfalso; omega) (fun h254 => ?_)
    refine go_aload_n (q := 0) (i := 0) rfl rfl dX12_tellOne_257 ?_
    refine go_getR lf12_20 rfl hx.o hx.r5 dX12_tellOne_258 ?_
    refine go_aload_n (q := 0) (i := 0) rfl rfl dX12_tellOne_261 ?_
    refine go_getI lf12_233 rfl hx.o dX12_tellOne_262 ?_
    rw [htp]
    refine go_iald (j := p) hx.i5 (by omega) (by first | decide | omega) rfl dX12_tellOne_265 ?_
    rw [(hT.k hpz).1, hk, show rk 7 = 27 from rfl]
    refine go_bipush (v := nI 27) (by decide) dX12_tellOne_266 ?_
    refine gn_le (by omega) (by omega) (tgt := 276) dX12_tellOne_268 (by decide) (fun h268 => ?_) (fun h268 => by exfalso; omega)
    refine go_aload_n (q := 0) (i := 0) rfl rfl dX12_tellOne_276 ?_
    refine go_getI lf12_230 rfl hx.o dX12_tellOne_277 ?_
    rw [h.1]
    refine gz_le (by omega) (tgt := 284) dX12_tellOne_280 (by decide) (fun h280 => ?_) (fun h280 => by exfalso; omega)
    refine go_aload_n (q := 0) (i := 0) rfl rfl dX12_tellOne_284 ?_
    refine go_callV okmX12_goesOn lmX12_251 ⟨nle rfl, nle rfl⟩ hx.o ⟨by decide, rfl⟩ (ex_goesOn hx hT h (fun b hb hm2 => by rw [show b = p from nI_i (hm2.symm.trans htp) (by omega) (by omega), hk]; decide)) npmX12_goesOn rfl (nle rfl) ⟨nle rfl, nle rfl⟩ dX12_tellOne_285 ?_
    rintro _ m1 ⟨rfl, f1, c1⟩
    rw [gGo_t (K := kG B n z) (k := 7) (fun _ => hk)] at f1
    have hx := c1.wf hx
    have e1 : ∀ x, 303 ≤ x → x ≤ 312 → gI m1 x = gI m x := fun x a b => c1.1.at (by omega)
    have l7' : ∀ k, k < 4 → (gI m1 303 (4 * sd + k) = nI 0 ∧ gI m1 304 (4 * sd + k) = nI 0 ∧ D.l k = deL k) ∨ ∃ b0, 130 * sd ≤ b0 ∧ b0 + (D.l k).1.length + 1 ≤ b ∧ gI m1 303 (4 * sd + k) = nI b0 ∧ gI m1 304 (4 * sd + k) = nI (b0 + (D.l k).1.length + 1) ∧ LwA m1 (420 * sd) C b0 (D.l k).1 (D.l k).2 := fun k hk => by
      rw [e1 303 (by decide) (by decide), e1 304 (by decide) (by decide)]
      rcases l7 k hk with h | ⟨b0, a1, a2, a3, a4, a5⟩
      · exact Or.inl h
      · exact Or.inr ⟨b0, a1, a2, a3, a4, LwA.keep (fun _ _ a => a) _ b0 a5 (fun y r _ _ a d => by rw [e1 r (by omega) (by omega)])⟩
    have hXB : XB (420 * sd) B n z m1 m1 (gTk (kG B n z) 7 (0, p)) Wt C := ⟨hx, c1.tk hT, f1, l0.fq c1, Fr.rf, by omega⟩
    have hs2p : (gTk (kG B n z) 7 (0, p)).1 = 0 → (gTk (kG B n z) 7 (0, p)).2 = p + 1 := fun q => by rw [(gTk_z q).2.2.2]
    refine go_c0 ?_
    refine go_aload_n (q := 0) (i := 0) rfl rfl dX12_tellOne_288 ?_
    refine go_iload_n (q := 1) (i := 1) rfl rfl dX12_tellOne_289 ?_
    refine go_callV okmX12_tellLaw lmX12_317 ⟨nle rfl, nle rfl⟩ hx.o ⟨by decide, rfl⟩ (ex_tellLaw (k := 3) (b := b) (sd := sd) hV ((c1.2 19 (by decide) (by decide) (by decide)).trans hsd) hs2 (by decide) l4 (by omega) hXB (fun _ => (c1.2 12 (by decide) (by decide) (by decide)).trans l6) (fun q => by rw [hs2p q]; omega) l2 ((c1.2 44 (by decide) (by decide) (by decide)).trans l3) (fun q => by rw [hs2p q]; omega)) npmX12_tellLaw rfl (nle rfl) ⟨nle rfl, nle rfl⟩ dX12_tellOne_290 ?_
    rintro _ m2 ⟨rfl, W', D', b', g1, g2, g3, g4, g4b, g5, g6⟩
    refine go_c0 ?_
    refine go_vret rfl ⟨Nat.zero_le _, Nat.zero_le _⟩ dX12_tellOne_293 ?_
    rw [gTell_l (by decide), teW_l (by decide), teD_l (by decide)]
    have e2 : (gTk (kG B n z) 7 (0, p)).1 = 0 → (gTk (kG B n z) 7 (0, p)).2 + 1 = p + 2 := fun q => by rw [(gTk_z q).2.2.2]
    refine ⟨rfl, g1.g, fun q => ?_, c1.fa.tr (g2.fa (by omega) (by decide)), g1.r.wv (by omega), fun z0 => ⟨?_, fun w0 => ?_, ?_⟩⟩
    · have hq1 := hq.fq c1 (s' := (gTk (kG B n z) 7 (0, p))) (fun _ => rfl)
      rw [g2.2.1 15 (by decide) (by decide) (by decide) (by decide) (by decide) (by decide) (by decide), g2.2.1 16 (by decide) (by decide) (by decide) (by decide) (by decide) (by decide) (by decide)]
      refine hq1 ?_
      have z1 := gS_z (gTk_s q)
      exact gTk_s (gIfs_z z1)
    · exact RdU.lw ((FA.u c1 hU).fv (fun x a b => g2.1.at (by omega)) (g2.2.1 20 (by decide) (by decide) (by decide) (by decide) (by decide) (by decide) (by decide)))
    · exact RdC.lw ((FA.c c1 (hC w0).1).fv (fun x a b => g2.1.at (by omega)) (g2.1.aj (fun a => a)))
    · have z1 : (gTk (kG B n z) 7 (0, p)).1 = 0 := gTk_s (gIfs_z (gS_z (gTk_s z0)))
      have gf := g6 _ (pr_z z0)
      rw [e2 z1] at gf
      exact LwI.law (C := C) (by decide) l4 l7' g1.r g2 g3 g4 g5 gf
  · skip
    refine go_aload_n (q := 0) (i := 0) rfl rfl dX12_tellOne_0 ?_
    refine go_getR lf12_20 rfl hx.o hx.r5 dX12_tellOne_1 ?_
    refine go_aload_n (q := 0) (i := 0) rfl rfl dX12_tellOne_4 ?_
    refine go_getI lf12_233 rfl hx.o dX12_tellOne_5 ?_
    rw [htp]
    refine go_iald (j := p) hx.i5 (by omega) (by first | decide | omega) rfl dX12_tellOne_8 ?_
    rw [(hT.k hpz).1, hk, show rk 8 = 28 from rfl]
    refine go_tswIn (off := 173) (tgt := 182) dX12_tellOne_9 (by decide) (by decide) (by decide) (by decide) ?_
    refine go_aload_n (q := 0) (i := 0) rfl rfl dX12_tellOne_182 ?_
    refine go_getR lf12_94 rfl hx.o hx.r39 dX12_tellOne_183 ?_
    refine go_aload_n (q := 0) (i := 0) rfl rfl dX12_tellOne_186 ?_
    refine go_getI lf12_263 rfl hx.o dX12_tellOne_187 ?_
    rw [hsd]
    refine go_aload_n (q := 0) (i := 0) rfl rfl dX12_tellOne_190 ?_
    refine go_iconst (v := nI 0) (by decide) dX12_tellOne_191 ?_
    refine go_bipush (v := nI 100) (by decide) dX12_tellOne_192 ?_
    refine go_callV okmX12_toldInt lmX12_314 ⟨nle rfl, nle rfl⟩ hx.o ⟨by decide, rfl⟩ (ex_toldInt (k := 8) (w := w) (a := 0) (b := 100) hx hT h hq hpu hn hV hw0 hk (by decide) (by decide) (by decide)) npmX12_toldInt rfl (nle rfl) ⟨nle rfl, nle rfl⟩ dX12_tellOne_194 ?_
    rintro _ m1 ⟨⟨v, rfl, hv⟩, g1, g2, g3⟩
    have hx := g3.wf hx
    refine go_c1 ?_
    refine go_iast (j := sd) hx.i39 (by omega) (by first | decide | omega) rfl dX12_tellOne_197 ?_
    refine go_goto (tgt := 293) dX12_tellOne_198 (by decide) ?_
    refine go_vret rfl ⟨Nat.zero_le _, Nat.zero_le _⟩ dX12_tellOne_293 ?_
    have e : gTell (kG B n z) c 8 (0, p) = (gTk (kG B n z) 25 (gTk (kG B n z) 24 (gTk (kG B n z) 8 (0, p)))) := rfl
    have hge := gTell_ge (c := c) (k := 8) hk
    rw [e] at hge ⊢
    have fv : FV sd m m1 := g3.fv
    have fu := fv.up (r := 300) (j := sd) (v := v) (by decide) (SD.at rfl)
    refine ⟨rfl, g1.st (by decide), (WQ.st g2 (by decide)).e (fun _ => wq_e (by omega)), fu.fa, hL.wv.fv fu, fun z0 => ?_⟩
    have RR := Rd.int (m' := sI m1 300 (upd (gI m1 300) sd (nI (vG B n z (p + 1))))) (q := 0) (v := vG B n z (p + 1)) hU ⟨by omega, by omega⟩ (by decide) (fun x a1 a2 => by rw [gI_n a2]; exact g3.1.at a1) (by rw [gI_s, g3.1.at (by decide)]) (by rw [gI_n (by decide)]; exact g3.2 20 (by decide) (by decide) (by decide) (by decide) (by decide)) (by rw [gJ_I]; exact g3.1.aj (fun a => a))
    rw [← hv z0] at RR
    exact ⟨by rw [hv z0] at *; exact RR.1, fun w0 => by rw [hv z0] at *; exact RR.2 (hC (teW_z w0)).1, hL.fv fu (hge z0) rfl⟩
  · skip
    refine go_aload_n (q := 0) (i := 0) rfl rfl dX12_tellOne_0 ?_
    refine go_getR lf12_20 rfl hx.o hx.r5 dX12_tellOne_1 ?_
    refine go_aload_n (q := 0) (i := 0) rfl rfl dX12_tellOne_4 ?_
    refine go_getI lf12_233 rfl hx.o dX12_tellOne_5 ?_
    rw [htp]
    refine go_iald (j := p) hx.i5 (by omega) (by first | decide | omega) rfl dX12_tellOne_8 ?_
    rw [(hT.k hpz).1, hk, show rk 9 = 29 from rfl]
    refine go_tswIn (off := 192) (tgt := 201) dX12_tellOne_9 (by decide) (by decide) (by decide) (by decide) ?_
    refine go_aload_n (q := 0) (i := 0) rfl rfl dX12_tellOne_201 ?_
    refine go_getR lf12_97 rfl hx.o hx.r40 dX12_tellOne_202 ?_
    refine go_aload_n (q := 0) (i := 0) rfl rfl dX12_tellOne_205 ?_
    refine go_getI lf12_263 rfl hx.o dX12_tellOne_206 ?_
    rw [hsd]
    refine go_aload_n (q := 0) (i := 0) rfl rfl dX12_tellOne_209 ?_
    refine go_iconst (v := nI 0) (by decide) dX12_tellOne_210 ?_
    refine go_bipush (v := nI 99) (by decide) dX12_tellOne_211 ?_
    refine go_callV okmX12_toldInt lmX12_314 ⟨nle rfl, nle rfl⟩ hx.o ⟨by decide, rfl⟩ (ex_toldInt (k := 9) (w := w) (a := 0) (b := 99) hx hT h hq hpu hn hV hw0 hk (by decide) (by decide) (by decide)) npmX12_toldInt rfl (nle rfl) ⟨nle rfl, nle rfl⟩ dX12_tellOne_213 ?_
    rintro _ m1 ⟨⟨v, rfl, hv⟩, g1, g2, g3⟩
    have hx := g3.wf hx
    refine go_c1 ?_
    refine go_iast (j := sd) hx.i40 (by omega) (by first | decide | omega) rfl dX12_tellOne_216 ?_
    refine go_goto (tgt := 293) dX12_tellOne_217 (by decide) ?_
    refine go_vret rfl ⟨Nat.zero_le _, Nat.zero_le _⟩ dX12_tellOne_293 ?_
    have e : gTell (kG B n z) c 9 (0, p) = (gTk (kG B n z) 25 (gTk (kG B n z) 24 (gTk (kG B n z) 9 (0, p)))) := rfl
    have hge := gTell_ge (c := c) (k := 9) hk
    rw [e] at hge ⊢
    have fv : FV sd m m1 := g3.fv
    have fu := fv.up (r := 301) (j := sd) (v := v) (by decide) (SD.at rfl)
    refine ⟨rfl, g1.st (by decide), (WQ.st g2 (by decide)).e (fun _ => wq_e (by omega)), fu.fa, hL.wv.fv fu, fun z0 => ?_⟩
    have RR := Rd.int (m' := sI m1 301 (upd (gI m1 301) sd (nI (vG B n z (p + 1))))) (q := 1) (v := vG B n z (p + 1)) hU ⟨by omega, by omega⟩ (by decide) (fun x a1 a2 => by rw [gI_n a2]; exact g3.1.at a1) (by rw [gI_s, g3.1.at (by decide)]) (by rw [gI_n (by decide)]; exact g3.2 20 (by decide) (by decide) (by decide) (by decide) (by decide)) (by rw [gJ_I]; exact g3.1.aj (fun a => a))
    rw [← hv z0] at RR
    exact ⟨by rw [hv z0] at *; exact RR.1, fun w0 => by rw [hv z0] at *; exact RR.2 (hC (teW_z w0)).1, hL.fv fu (hge z0) rfl⟩
  · skip
    refine go_aload_n (q := 0) (i := 0) rfl rfl dX12_tellOne_0 ?_
    refine go_getR lf12_20 rfl hx.o hx.r5 dX12_tellOne_1 ?_
    refine go_aload_n (q := 0) (i := 0) rfl rfl dX12_tellOne_4 ?_
    refine go_getI lf12_233 rfl hx.o dX12_tellOne_5 ?_
    rw [htp]
    refine go_iald (j := p) hx.i5 (by omega) (by first | decide | omega) rfl dX12_tellOne_8 ?_
    rw [(hT.k hpz).1, hk, show rk 10 = 30 from rfl]
    refine go_tswIn (off := 211) (tgt := 220) dX12_tellOne_9 (by decide) (by decide) (by decide) (by decide) ?_
    refine go_aload_n (q := 0) (i := 0) rfl rfl dX12_tellOne_220 ?_
    refine go_getR lf12_100 rfl hx.o hx.r41 dX12_tellOne_221 ?_
    refine go_aload_n (q := 0) (i := 0) rfl rfl dX12_tellOne_224 ?_
    refine go_getI lf12_263 rfl hx.o dX12_tellOne_225 ?_
    rw [hsd]
    refine go_aload_n (q := 0) (i := 0) rfl rfl dX12_tellOne_228 ?_
    refine go_iconst (v := nI 0) (by decide) dX12_tellOne_229 ?_
    refine go_sipush (v := nI 9999) (by decide) dX12_tellOne_230 ?_
    refine go_callV okmX12_toldInt lmX12_314 ⟨nle rfl, nle rfl⟩ hx.o ⟨by decide, rfl⟩ (ex_toldInt (k := 10) (w := w) (a := 0) (b := 9999) hx hT h hq hpu hn hV hw0 hk (by decide) (by decide) (by decide)) npmX12_toldInt rfl (nle rfl) ⟨nle rfl, nle rfl⟩ dX12_tellOne_233 ?_
    rintro _ m1 ⟨⟨v, rfl, hv⟩, g1, g2, g3⟩
    have hx := g3.wf hx
    refine go_c1 ?_
    refine go_iast (j := sd) hx.i41 (by omega) (by first | decide | omega) rfl dX12_tellOne_236 ?_
    refine go_goto (tgt := 293) dX12_tellOne_237 (by decide) ?_
    refine go_vret rfl ⟨Nat.zero_le _, Nat.zero_le _⟩ dX12_tellOne_293 ?_
    have e : gTell (kG B n z) c 10 (0, p) = (gTk (kG B n z) 25 (gTk (kG B n z) 24 (gTk (kG B n z) 10 (0, p)))) := rfl
    have hge := gTell_ge (c := c) (k := 10) hk
    rw [e] at hge ⊢
    have fv : FV sd m m1 := g3.fv
    have fu := fv.up (r := 302) (j := sd) (v := v) (by decide) (SD.at rfl)
    refine ⟨rfl, g1.st (by decide), (WQ.st g2 (by decide)).e (fun _ => wq_e (by omega)), fu.fa, hL.wv.fv fu, fun z0 => ?_⟩
    have RR := Rd.int (m' := sI m1 302 (upd (gI m1 302) sd (nI (vG B n z (p + 1))))) (q := 2) (v := vG B n z (p + 1)) hU ⟨by omega, by omega⟩ (by decide) (fun x a1 a2 => by rw [gI_n a2]; exact g3.1.at a1) (by rw [gI_s, g3.1.at (by decide)]) (by rw [gI_n (by decide)]; exact g3.2 20 (by decide) (by decide) (by decide) (by decide) (by decide)) (by rw [gJ_I]; exact g3.1.aj (fun a => a))
    rw [← hv z0] at RR
    exact ⟨by rw [hv z0] at *; exact RR.1, fun w0 => by rw [hv z0] at *; exact RR.2 (hC (teW_z w0)).1, hL.fv fu (hge z0) rfl⟩
  · skip
    have hrn := rk_n k (by rw [← hk]; exact kG_le) hk10
    by_cases hlo : rk k < 20
    · skip
      refine go_aload_n (q := 0) (i := 0) rfl rfl dX12_tellOne_0 ?_
      refine go_getR lf12_20 rfl hx.o hx.r5 dX12_tellOne_1 ?_
      refine go_aload_n (q := 0) (i := 0) rfl rfl dX12_tellOne_4 ?_
      refine go_getI lf12_233 rfl hx.o dX12_tellOne_5 ?_
      rw [htp]
      refine go_iald (j := p) hx.i5 (by omega) (by first | decide | omega) rfl dX12_tellOne_8 ?_
      rw [(hT.k hpz).1, hk]
      refine go_tswOut (tgt := 240) dX12_tellOne_9 (by rw [nI_toInt (by omega)]; omega) (by decide) ?_
      refine go_aload_n (q := 0) (i := 0) rfl rfl dX12_tellOne_240 ?_
      refine go_getR lf12_20 rfl hx.o hx.r5 dX12_tellOne_241 ?_
      refine go_aload_n (q := 0) (i := 0) rfl rfl dX12_tellOne_244 ?_
      refine go_getI lf12_233 rfl hx.o dX12_tellOne_245 ?_
      rw [htp]
      refine go_iald (j := p) hx.i5 (by omega) (by first | decide | omega) rfl dX12_tellOne_248 ?_
      rw [(hT.k hpz).1, hk]
      refine go_bipush (v := nI 24) (by decide) dX12_tellOne_249 ?_
      refine go_isub dX12_tellOne_251 ?_
      refine go_istore_n (q := 1) (i := 1) rfl dX12_tellOne_252 (nle rfl) (nle rfl) ?_
      refine go_iload_n (q := 1) (i := 1) rfl rfl dX12_tellOne_253 ?_
      refine go_if_lt (tgt := 271) dX12_tellOne_254 (by decide) (fun h254 => ?_) (fun h254 => by exfalso; exact h254 (by rw [Int32.lt_iff_toInt_lt, pk_sub_toInt (by omega) (by omega)]; show _ < (0 : Int); omega))
      refine go_aload_n (q := 0) (i := 0) rfl rfl dX12_tellOne_271 ?_
      refine go_iconst (v := nI 1) (by decide) dX12_tellOne_272 ?_
      refine go_callV okmX12_fail lmX12_245 ⟨nle rfl, nle rfl⟩ hx.o ⟨by decide, rfl⟩ (ex_gfail hx hT h (c := 1) (by decide)) npmX12_fail rfl (nle rfl) ⟨nle rfl, nle rfl⟩ dX12_tellOne_273 ?_
      rintro _ m1 ⟨rfl, f1, c1⟩
      have hx := c1.wf hx
      refine go_c0 ?_
      refine go_aload_n (q := 0) (i := 0) rfl rfl dX12_tellOne_276 ?_
      refine go_getI lf12_230 rfl hx.o dX12_tellOne_277 ?_
      rw [f1.1]; show Go _ _ _ _ (.int (nI 1) :: _) _ _ _
      refine gz_le (by omega) (tgt := 284) dX12_tellOne_280 (by decide) (fun h280 => by exfalso; omega) (fun h280 => ?_)
      refine go_vret rfl ⟨Nat.zero_le _, Nat.zero_le _⟩ dX12_tellOne_283 ?_
      have e : gTell (kG B n z) c k (0, p) = (1, p) := by
        unfold gTell
        rw [if_pos hk10]
        rfl
      rw [e]
      exact ⟨rfl, f1, fun q => absurd q (Nat.succ_ne_zero 0), c1.fa, hL.wv.fv (FW.fv (sd := sd) c1.fw), fun q => absurd q (Nat.succ_ne_zero 0)⟩
    · skip
      refine go_aload_n (q := 0) (i := 0) rfl rfl dX12_tellOne_0 ?_
      refine go_getR lf12_20 rfl hx.o hx.r5 dX12_tellOne_1 ?_
      refine go_aload_n (q := 0) (i := 0) rfl rfl dX12_tellOne_4 ?_
      refine go_getI lf12_233 rfl hx.o dX12_tellOne_5 ?_
      rw [htp]
      refine go_iald (j := p) hx.i5 (by omega) (by first | decide | omega) rfl dX12_tellOne_8 ?_
      rw [(hT.k hpz).1, hk]
      refine go_tswOut (tgt := 240) dX12_tellOne_9 (by rw [nI_toInt (by omega)]; omega) (by decide) ?_
      refine go_aload_n (q := 0) (i := 0) rfl rfl dX12_tellOne_240 ?_
      refine go_getR lf12_20 rfl hx.o hx.r5 dX12_tellOne_241 ?_
      refine go_aload_n (q := 0) (i := 0) rfl rfl dX12_tellOne_244 ?_
      refine go_getI lf12_233 rfl hx.o dX12_tellOne_245 ?_
      rw [htp]
      refine go_iald (j := p) hx.i5 (by omega) (by first | decide | omega) rfl dX12_tellOne_248 ?_
      rw [(hT.k hpz).1, hk]
      refine go_bipush (v := nI 24) (by decide) dX12_tellOne_249 ?_
      refine gn_sub (by omega) dX12_tellOne_251 ?_
      refine go_istore_n (q := 1) (i := 1) rfl dX12_tellOne_252 (nle rfl) (nle rfl) ?_
      refine go_iload_n (q := 1) (i := 1) rfl rfl dX12_tellOne_253 ?_
      refine gz_lt (by omega) (tgt := 271) dX12_tellOne_254 (by decide) (fun h254 => by exfalso; omega) (fun h254 => ?_)
      refine go_aload_n (q := 0) (i := 0) rfl rfl dX12_tellOne_257 ?_
      refine go_getR lf12_20 rfl hx.o hx.r5 dX12_tellOne_258 ?_
      refine go_aload_n (q := 0) (i := 0) rfl rfl dX12_tellOne_261 ?_
      refine go_getI lf12_233 rfl hx.o dX12_tellOne_262 ?_
      rw [htp]
      refine go_iald (j := p) hx.i5 (by omega) (by first | decide | omega) rfl dX12_tellOne_265 ?_
      rw [(hT.k hpz).1, hk]
      refine go_bipush (v := nI 27) (by decide) dX12_tellOne_266 ?_
      refine gn_le (by omega) (by omega) (tgt := 276) dX12_tellOne_268 (by decide) (fun h268 => by exfalso; omega) (fun h268 => ?_)
      refine go_aload_n (q := 0) (i := 0) rfl rfl dX12_tellOne_271 ?_
      refine go_iconst (v := nI 1) (by decide) dX12_tellOne_272 ?_
      refine go_callV okmX12_fail lmX12_245 ⟨nle rfl, nle rfl⟩ hx.o ⟨by decide, rfl⟩ (ex_gfail hx hT h (c := 1) (by decide)) npmX12_fail rfl (nle rfl) ⟨nle rfl, nle rfl⟩ dX12_tellOne_273 ?_
      rintro _ m1 ⟨rfl, f1, c1⟩
      have hx := c1.wf hx
      refine go_c0 ?_
      refine go_aload_n (q := 0) (i := 0) rfl rfl dX12_tellOne_276 ?_
      refine go_getI lf12_230 rfl hx.o dX12_tellOne_277 ?_
      rw [f1.1]; show Go _ _ _ _ (.int (nI 1) :: _) _ _ _
      refine gz_le (by omega) (tgt := 284) dX12_tellOne_280 (by decide) (fun h280 => by exfalso; omega) (fun h280 => ?_)
      refine go_vret rfl ⟨Nat.zero_le _, Nat.zero_le _⟩ dX12_tellOne_283 ?_
      have e : gTell (kG B n z) c k (0, p) = (1, p) := by
        unfold gTell
        rw [if_pos hk10]
        rfl
      rw [e]
      exact ⟨rfl, f1, fun q => absurd q (Nat.succ_ne_zero 0), c1.fa, hL.wv.fv (FW.fv (sd := sd) c1.fw), fun q => absurd q (Nat.succ_ne_zero 0)⟩
