theorem b8_255 (x : Int32) : x.toInt8.toInt32 &&& nI 255 = x &&& nI 255 := by
  apply Int32.toBitVec_inj.mp
  show ((x.toBitVec.signExtend 8).signExtend 32) &&& 255#32 = x.toBitVec &&& 255#32
  generalize x.toBitVec = b
  apply BitVec.eq_of_getLsbD_eq
  intro i hi
  rw [BitVec.getLsbD_and, BitVec.getLsbD_and]
  by_cases h : i < 8
  · rw [BitVec.getLsbD_signExtend, BitVec.getLsbD_signExtend, if_pos h, if_pos hi, decide_eq_true hi, decide_eq_true h, Bool.true_and, Bool.true_and]
  · rw [(show ∀ i : Fin 32, 8 ≤ i.val → (255#32).getLsbD i.val = false by decide) ⟨i, hi⟩ (by show 8 ≤ i; omega), Bool.and_false, Bool.and_false]
/-- what stands of the reference when a text is in place -/
def RrN (m m' : Me) (sd : Nat) (P : Pl) : Prop := MdC m' P sd ∧ (∀ k, k < 105 → gI m' 315 k = bgM P k) ∧ gI m' 274 63 = nI 0 ∧ gI m' 274 68 = nI 0 ∧ (∀ j, j < 3 → gI m' 326 j = nI 0) ∧ Wf12 m'.1 (gR m') ∧ m'.1 = m.1 ∧ gR m' = gR m ∧ (∀ x, x < 274 → gI m' x = gI m x) ∧ gI m' 320 = gI m 320 ∧ ∀ x, x ≠ 280 → x ≠ 282 → gJ m' x = gJ m x
/-- the state of reading at token p: no fault so far -/
def RdI (m m2 : Me) (B : Nat → Nat) (n z sd p : Nat) (D : Dr) (w : Nat × Nat) : Prop := GM m2 B n z (0, p) ∧ WQ m2 B n z (0, p) w ∧ RdU m2 sd D ∧ (w.1 = 0 → RdC m2 sd D ∧ DrO D ∧ NmD D) ∧ (w.1 ≠ 0 → w.2 < p) ∧ LwI m2 sd D p ∧ FG sd m m2 ∧ gI m2 274 19 = nI sd ∧ gI m2 274 2 = nI 0
theorem RdU.fv2 {m m' : Me} {sd : Nat} {D : Dr} (h : RdU m sd D) (e : ∀ x, x ≠ 287 → gI m' x = gI m x) : RdU m' sd D := by
  unfold RdU
  rw [e 284 (by decide), e 285 (by decide), e 288 (by decide), e 291 (by decide), e 296 (by decide), e 300 (by decide), e 301 (by decide), e 302 (by decide), e 289 (by decide), e 290 (by decide), e 293 (by decide), e 294 (by decide), e 295 (by decide), e 297 (by decide), e 298 (by decide), e 299 (by decide), e 274 (by decide)]
  exact h
theorem RdC.fv2 {m m' : Me} {sd : Nat} {D : Dr} (h : RdC m sd D) (e : ∀ x, x ≠ 287 → gI m' x = gI m x) (e2 : gJ m' 282 = gJ m 282) : RdC m' sd D := by
  unfold RdC NmM
  rw [e 286 (by decide), e 292 (by decide), e 283 (by decide), e2]
  exact h
set_option maxRecDepth 100000 in
set_option maxHeartbeats 8000000 in
/-- a fault: it is answered -/
theorem ex_rdF {m : Me} {B : Nat → Nat} {n z sd : Nat} {m2 : Me} {x1 : Option Value} (hx0 : Wf12 m.1 (gR m)) (hn : n ≤ 2000) (hg : GM m2 B n z (rdS B n z)) (hS : (rdS B n z).1 ≠ 0) (hfg : FG sd m m2) (h2 : gI m2 274 2 = nI 0) (hwv : WvR m2) : Go mX12_read (fun o m' => o = some (.int (nI (rdW B n z).1)) ∧ gI m' 274 17 = rdP B n z ∧ gI m' 274 2 = nI 0 ∧ WvR m' ∧ ((rdW B n z).1 ≠ 0 → FG sd m m') ∧ ((rdW B n z).1 = 0 → RrN m m' sd (plD (rdF B n z).1))) 112 [some (.ref 274), x1] [] m2 0 0 := by
  have hx := hfg.wf hx0
  have h9 := hg.2.2.2.1
  refine go_aload_n (q := 0) (i := 0) rfl rfl dX12_read_112 ?_
  refine go_getI lf12_230 rfl hx.o dX12_read_113 ?_
  rw [hg.1]
  refine gz_ne (by omega) (tgt := 134) dX12_read_116 (by decide) (fun h116 => ?_) (fun h116 => by exfalso; omega)
  refine go_aload_n (q := 0) (i := 0) rfl rfl dX12_read_134 ?_
  refine go_getI lf12_230 rfl hx.o dX12_read_135 ?_
  rw [hg.1]
  refine gz_ne (by omega) (tgt := 158) dX12_read_138 (by decide) (fun h138 => ?_) (fun h138 => by exfalso; omega)
  refine go_aload_n (q := 0) (i := 0) rfl rfl dX12_read_158 ?_
  refine go_aload_n (q := 0) (i := 0) rfl rfl dX12_read_159 ?_
  refine go_getI lf12_230 rfl hx.o dX12_read_160 ?_
  rw [hg.1]
  refine gz_le (by omega) (tgt := 173) dX12_read_163 (by decide) (fun h163 => by exfalso; omega) (fun h163 => ?_)
  refine go_aload_n (q := 0) (i := 0) rfl rfl dX12_read_166 ?_
  refine go_getI lf12_236 rfl hx.o dX12_read_167 ?_
  rw [hg.2.2.1 hS]
  refine go_goto (tgt := 188) dX12_read_170 (by decide) ?_
  refine go_putI lf12_37 rfl (Or.inl rfl) hx.o dX12_read_188 ?_
  refine go_aload_n (q := 0) (i := 0) rfl rfl dX12_read_191 ?_
  refine go_getI lf12_230 rfl hx.o dX12_read_192 ?_
  rw [gI_s, upd_ne (by decide), hg.1]
  refine gz_le (by omega) (tgt := 203) dX12_read_195 (by decide) (fun h195 => by exfalso; omega) (fun h195 => ?_)
  refine go_aload_n (q := 0) (i := 0) rfl rfl dX12_read_198 ?_
  refine go_getI lf12_230 rfl hx.o dX12_read_199 ?_
  rw [gI_s, upd_ne (by decide), hg.1]
  refine go_iret rfl ⟨Nat.zero_le _, Nat.zero_le _⟩ dX12_read_202 ?_
  have hW : rdW B n z = rdS B n z := if_neg hS
  refine ⟨by rw [hW], ?_, by rw [gI_s, upd_ne (by decide)]; exact h2, ?_, fun _ => hfg.p (by decide), fun q => absurd q (by rw [hW]; exact hS)⟩
  · unfold rdP
    rw [hW, if_neg hS, gI_s, upd_same]
  · unfold WvR
    rw [gI_s, upd_ne (by decide), gI_n (show 312 ≠ 274 by decide)]
    exact hwv
set_option maxRecDepth 100000 in
set_option maxHeartbeats 8000000 in
/-- nothing is wrong: the plan is in place -/
theorem ex_rdN {m : Me} {B : Nat → Nat} {n z sd : Nat} {m4 : Me} {x1 : Option Value} {D : Dr} {c : Nat → Nat} {q : Nat} (hx0 : Wf12 m.1 (gR m)) (hs2 : sd < 2) (hW0 : (rdW B n z).1 = 0) (hDz : D = (rdF B n z).1) (hU : RdU m4 sd D) (hR : RdC m4 sd D) (hD : DrO D) (hcn : CnW c D) (hla : laO D) (hL : LwI m4 sd D q) (hq4 : q ≤ 400) (hfg : FG sd m m4) (h17 : gI m4 274 17 = rdP B n z) (h19 : gI m4 274 19 = nI sd) (h2 : gI m4 274 2 = nI 0) (hwv : WvR m4) : Go mX12_read (fun o m' => o = some (.int (nI (rdW B n z).1)) ∧ gI m' 274 17 = rdP B n z ∧ gI m' 274 2 = nI 0 ∧ WvR m' ∧ ((rdW B n z).1 ≠ 0 → FG sd m m') ∧ ((rdW B n z).1 = 0 → RrN m m' sd (plD (rdF B n z).1))) 215 [some (.ref 274), x1] [] m4 0 0 := by
  have hx := hfg.wf hx0
  have ok : PlOk (plD D) := by rw [hDz]; exact (rd_pl hW0).2.2.2
  rw [← hDz]
  obtain ⟨y0, y1, y2, y3, y4, z0, z1, z2, z3⟩ := id hcn
  refine go_aload_n (q := 0) (i := 0) rfl rfl dX12_read_215 ?_
  refine go_aload_n (q := 0) (i := 0) rfl rfl dX12_read_216 ?_
  refine go_getI lf12_263 rfl hx.o dX12_read_217 ?_
  rw [h19]
  refine go_putI lf12_260 rfl (Or.inl rfl) hx.o dX12_read_220 ?_
  generalize hmE : sI m4 274 (upd (gI m4 274) 18 (nI sd)) = m5
  have f18 : gI m5 274 18 = nI sd := by rw [← hmE, gI_s, upd_same]
  have hx : Wf12 m5.1 (gR m5) := by rw [← hmE]; exact hx
  have hU : RdU m5 sd D := by rw [← hmE]; exact hU.p (by decide)
  have hR : RdC m5 sd D := by rw [← hmE]; exact hR.p
  have hL : LwI m5 sd D q := by rw [← hmE]; exact hL.p (by decide)
  have hn5 : m5.1 = m.1 := by rw [← hmE]; exact hfg.1.1
  have hr5 : gR m5 = gR m := by rw [← hmE]; exact hfg.1.2.1
  have hlo5 : ∀ x, x < 274 → gI m5 x = gI m x := fun x a => by rw [← hmE, gI_n (by omega)]; exact hfg.1.at (by omega)
  have h3205 : gI m5 320 = gI m 320 := by rw [← hmE, gI_n (by decide)]; exact hfg.1.at (by decide)
  have hj5 : ∀ x, x ≠ 280 → x ≠ 282 → gJ m5 x = gJ m x := fun x a b => by rw [← hmE, gJ_I]; exact hfg.1.aj (by omega)
  have h175 : gI m5 274 17 = rdP B n z := by rw [← hmE, gI_s, upd_ne (by decide)]; exact h17
  have h25 : gI m5 274 2 = nI 0 := by rw [← hmE, gI_s, upd_ne (by decide)]; exact h2
  have hwv5 : WvR m5 := by rw [← hmE]; unfold WvR; rw [gI_s, upd_ne (by decide), gI_n (show 312 ≠ 274 by decide)]; exact hwv
  clear hmE
  refine go_iconst (v := nI 0) (by decide) dX12_read_223 ?_
  refine go_istore_n (q := 1) (i := 1) rfl dX12_read_224 (nle rfl) (nle rfl) ?_
  have key3 : ∀ s, s ≤ 3 → ∀ m9 : Me, (∀ j, j < s → gI m9 326 j = nI 0) → MdC m9 (plD D) sd → (∀ k, k < 105 → gI m9 315 k = bgM (plD D) k) → gI m9 274 63 = nI 0 → gI m9 274 68 = nI 0 → Wf12 m9.1 (gR m9) → m9.1 = m.1 → gR m9 = gR m → (∀ x, x < 274 → gI m9 x = gI m x) → gI m9 320 = gI m 320 → (∀ x, x ≠ 280 → x ≠ 282 → gJ m9 x = gJ m x) → gI m9 274 17 = rdP B n z → gI m9 274 2 = nI 0 → WvR m9 → Go mX12_read (fun o m' => o = some (.int (nI (rdW B n z).1)) ∧ gI m' 274 17 = rdP B n z ∧ gI m' 274 2 = nI 0 ∧ WvR m' ∧ ((rdW B n z).1 ≠ 0 → FG sd m m') ∧ ((rdW B n z).1 = 0 → RrN m m' sd (plD D))) 352 [some (.ref 274), some (.int (nI s))] [] m9 0 0 := by
    refine loop_up 3 ?_ ?_
    · intro m9 hh hM hn hu ht hx hn1 hr hlo h320 hj h17 h2 hwv
      refine go_iload_n (q := 1) (i := 1) rfl rfl dX12_read_352 ?_
      refine go_iconst (v := nI 3) (by decide) dX12_read_353 ?_
      refine gn_ge (by omega) (by omega) (tgt := 370) dX12_read_354 (by decide) (fun h354 => ?_) (fun h354 => by exfalso; omega)
      refine go_iconst (v := nI 0) (by decide) dX12_read_370 ?_
      refine go_iret rfl ⟨Nat.zero_le _, Nat.zero_le _⟩ dX12_read_371 ?_
      exact ⟨by rw [hW0], h17, h2, hwv, fun q => absurd hW0 q, fun _ => ⟨hM, hn, hu, ht, hh, hx, hn1, hr, hlo, h320, hj⟩⟩
    · intro s hs ih m9 hh hM hn hu ht hx hn1 hr hlo h320 hj h17 h2 hwv
      refine go_iload_n (q := 1) (i := 1) rfl rfl dX12_read_352 ?_
      refine go_iconst (v := nI 3) (by decide) dX12_read_353 ?_
      refine gn_ge (by omega) (by omega) (tgt := 370) dX12_read_354 (by decide) (fun h354 => by exfalso; omega) (fun h354 => ?_)
      refine go_aload_n (q := 0) (i := 0) rfl rfl dX12_read_357 ?_
      refine go_getR lf12_173 rfl hx.o hx.r73 dX12_read_358 ?_
      refine go_iload_n (q := 1) (i := 1) rfl rfl dX12_read_361 ?_
      refine go_iconst (v := nI 0) (by decide) dX12_read_362 ?_
      refine go_zast (j := s) hx.i73 (by omega) (by first | decide | omega) rfl (by decide) dX12_read_363 ?_
      refine gn_inc (i := 1) (a := s) (q := 1) rfl dX12_read_364 (nle rfl) rfl ?_
      refine go_goto (tgt := 352) dX12_read_367 (by decide) ?_
      refine ih _ (fun j hj => ?_) (hM.keep (by rw [gI_n (by decide)]) (fun x a b => gI_n (by omega))) (fun k hk => by rw [gI_n (by decide)]; exact hn k hk) (by rw [gI_n (by decide)]; exact hu) (by rw [gI_n (by decide)]; exact ht) hx hn1 hr (fun x a => by rw [gI_n (by omega)]; exact hlo x a) (by rw [gI_n (by decide)]; exact h320) hj (by rw [gI_n (by decide)]; exact h17) (by rw [gI_n (by decide)]; exact h2) (by unfold WvR; rw [gI_n (show 274 ≠ 326 by decide), gI_n (show 312 ≠ 326 by decide)]; exact hwv)
      rw [gI_s, upd_c]
      by_cases e : j = s
      · rw [if_pos e]
      · rw [if_neg e]; exact hh j (by omega)
  have k332 : ∀ (x1 : Option Value) (m6 : Me), (∀ x, x ≠ 287 → gI m6 x = gI m5 x) → (∀ x, gJ m6 x = gJ m5 x) → m6.1 = m5.1 → gR m6 = gR m5 → (∀ c, c < 40 → gI m6 287 (40 * sd + c) = nI (bfo D.bk c (D.n 4))) → Go mX12_read (fun o m' => o = some (.int (nI (rdW B n z).1)) ∧ gI m' 274 17 = rdP B n z ∧ gI m' 274 2 = nI 0 ∧ WvR m' ∧ ((rdW B n z).1 ≠ 0 → FG sd m m') ∧ ((rdW B n z).1 = 0 → RrN m m' sd (plD D))) 332 [some (.ref 274), x1] [] m6 0 0 := by
    intro x1 m6 e6 j6 n6 r6 hf
    have hx : Wf12 m6.1 (gR m6) := by rw [n6, r6]; exact hx
    have g18 : gI m6 274 18 = nI sd := by rw [e6 274 (by decide)]; exact f18
    have hM : MdC m6 (plD D) sd := rd_md hs2 g18 (hU.fv2 e6) (hR.fv2 e6 (j6 282)) (hL.keep (fun x a b => e6 x (by omega)) (fun k hk => by rw [e6 274 (by decide)]) (Nat.le_refl _) rfl) hq4 hD hcn hf
    refine go_aload_n (q := 0) (i := 0) rfl rfl dX12_read_332 ?_
    refine go_callV okmX12_begins lmX12_187 ⟨nle rfl, nle rfl⟩ hx.o ⟨by decide, rfl⟩ (ex_begins (lv := sd) hx hM ok) npmX12_begins rfl (nle rfl) ⟨nle rfl, nle rfl⟩ dX12_read_333 ?_
    rintro _ m7 ⟨rfl, c7, b1, b2, b3, b4⟩
    have hM7 := c7.md hM
    have hx := c7.wf hx
    refine go_c0 ?_
    refine go_aload_n (q := 0) (i := 0) rfl rfl dX12_read_336 ?_
    refine go_callV okmX12_keepsRow lmX12_190 ⟨nle rfl, nle rfl⟩ hx.o ⟨by decide, rfl⟩ (ex_keepsRow hx) npmX12_keepsRow rfl (nle rfl) ⟨nle rfl, nle rfl⟩ dX12_read_337 ?_
    rintro _ m8 ⟨rfl, he8⟩
    have hx : Wf12 m8.1 (gR m8) := by rw [he8]; exact hx
    refine go_c0 ?_
    refine go_aload_n (q := 0) (i := 0) rfl rfl dX12_read_340 ?_
    refine go_iconst (v := nI 0) (by decide) dX12_read_341 ?_
    refine go_putI lf12_286 rfl (Or.inl rfl) hx.o dX12_read_342 ?_
    refine go_aload_n (q := 0) (i := 0) rfl rfl dX12_read_345 ?_
    refine go_iconst (v := nI 0) (by decide) dX12_read_346 ?_
    refine go_putI lf12_289 rfl (Or.inl rfl) hx.o dX12_read_347 ?_
    refine go_iconst (v := nI 0) (by decide) dX12_read_350 ?_
    refine go_istore_n (q := 1) (i := 1) rfl dX12_read_351 (nle rfl) (nle rfl) ?_
    have e8 : ∀ x, x ≠ 315 → gI m8 x = gI m7 x := fun x a => by rw [he8, gI_n a]
    have e7 : ∀ x, x ≠ 274 → x ≠ 313 → x ≠ 314 → x ≠ 316 → x ≠ 317 → gI m7 x = gI m6 x := fun x a b c d e => c7.1.at (by omega)
    refine key3 0 (Nat.zero_le _) _ (fun j hj => absurd hj (Nat.not_lt_zero j)) (hM7.keep (by rw [gI_s, upd_ne (by decide), gI_s, upd_ne (by decide), e8 274 (by decide)]) (fun x a b => by rw [gI_n (by omega), gI_n (by omega), e8 x (by omega)])) (fun k hk => by rw [gI_n (by decide), gI_n (by decide), he8, gI_s, cp_in hk]; exact b1 k hk) (by rw [gI_s, upd_ne (by decide), gI_s, upd_same]) (by rw [gI_s, upd_same]) hx (by show m8.1 = _; rw [he8]; exact c7.1.1.trans (n6.trans hn5)) (by show gR m8 = _; rw [he8]; exact c7.1.2.2.1.trans (r6.trans hr5)) (fun x a => by rw [gI_n (by omega), gI_n (by omega), e8 x (by omega), e7 x (by omega) (by omega) (by omega) (by omega) (by omega), e6 x (by omega)]; exact hlo5 x a) (by rw [gI_n (by decide), gI_n (by decide), e8 320 (by decide), e7 320 (by decide) (by decide) (by decide) (by decide) (by decide), e6 320 (by decide)]; exact h3205) (fun x a b => by show gJ m8 x = _; rw [he8]; exact (congrFun c7.1.2.1 x).trans ((j6 x).trans (hj5 x a b))) ?_ ?_ ?_
    · rw [gI_s, upd_ne (by decide), gI_s, upd_ne (by decide), e8 274 (by decide), c7.2 17 (by decide) (by decide) (by decide), e6 274 (by decide)]; exact h175
    · rw [gI_s, upd_ne (by decide), gI_s, upd_ne (by decide), e8 274 (by decide), c7.2 2 (by decide) (by decide) (by decide), e6 274 (by decide)]; exact h25
    · unfold WvR
      rw [gI_s, upd_ne (by decide), gI_s, upd_ne (by decide), e8 274 (by decide), c7.2 54 (by decide) (by decide) (by decide), e6 274 (by decide), gI_n (show 312 ≠ 274 by decide), gI_n (show 312 ≠ 274 by decide), e8 312 (by decide), e7 312 (by decide) (by decide) (by decide) (by decide) (by decide), e6 312 (by decide)]
      exact hwv5
  have k254 : ∀ i, i ≤ D.n 4 → ∀ (m6 : Me), (∀ x, x ≠ 287 → gI m6 x = gI m5 x) → (∀ x, gJ m6 x = gJ m5 x) → m6.1 = m5.1 → gR m6 = gR m5 → (∀ c, c < 40 → gI m6 287 (40 * sd + c) = nI (bfo D.bk c i)) → Go mX12_read (fun o m' => o = some (.int (nI (rdW B n z).1)) ∧ gI m' 274 17 = rdP B n z ∧ gI m' 274 2 = nI 0 ∧ WvR m' ∧ ((rdW B n z).1 ≠ 0 → FG sd m m') ∧ ((rdW B n z).1 = 0 → RrN m m' sd (plD D))) 254 [some (.ref 274), some (.int (nI i))] [] m6 0 0 := by
    refine loop_up (D.n 4) ?_ ?_
    · intro m6 e6 j6 n6 r6 hf
      have hx : Wf12 m6.1 (gR m6) := by rw [n6, r6]; exact hx
      have g18 : gI m6 274 18 = nI sd := by rw [e6 274 (by decide)]; exact f18
      refine go_iload_n (q := 1) (i := 1) rfl rfl dX12_read_254 ?_
      refine go_aload_n (q := 0) (i := 0) rfl rfl dX12_read_255 ?_
      refine go_getR lf12_82 rfl hx.o hx.r35 dX12_read_256 ?_
      refine go_aload_n (q := 0) (i := 0) rfl rfl dX12_read_259 ?_
      refine go_getI lf12_260 rfl hx.o dX12_read_260 ?_
      rw [g18]
      refine go_iald (j := sd) hx.i35 (by omega) (by first | decide | omega) rfl dX12_read_263 ?_
      rw [e6 296 (by decide), hU.1.2.2.2.2]
      refine gn_ge (by omega) (by omega) (tgt := 332) dX12_read_264 (by decide) (fun h264 => ?_) (fun h264 => by exfalso; omega)
      exact k332 _ m6 e6 j6 n6 r6 hf
    · intro i hi ih m6 e6 j6 n6 r6 hf
      have hx : Wf12 m6.1 (gR m6) := by rw [n6, r6]; exact hx
      have g18 : gI m6 274 18 = nI sd := by rw [e6 274 (by decide)]; exact f18
      have hb7 := hD.2.2.2.2.2.2.1 i hi
      have hbl := hla.2 i hi
      refine go_iload_n (q := 1) (i := 1) rfl rfl dX12_read_254 ?_
      refine go_aload_n (q := 0) (i := 0) rfl rfl dX12_read_255 ?_
      refine go_getR lf12_82 rfl hx.o hx.r35 dX12_read_256 ?_
      refine go_aload_n (q := 0) (i := 0) rfl rfl dX12_read_259 ?_
      refine go_getI lf12_260 rfl hx.o dX12_read_260 ?_
      rw [g18]
      refine go_iald (j := sd) hx.i35 (by omega) (by first | decide | omega) rfl dX12_read_263 ?_
      rw [e6 296 (by decide), hU.1.2.2.2.2]
      refine gn_ge (by omega) (by omega) (tgt := 332) dX12_read_264 (by decide) (fun h264 => by exfalso; omega) (fun h264 => ?_)
      refine go_aload_n (q := 0) (i := 0) rfl rfl dX12_read_267 ?_
      refine go_getR lf12_55 rfl hx.o hx.r26 dX12_read_268 ?_
      refine go_bipush (v := nI 40) (by decide) dX12_read_271 ?_
      refine go_aload_n (q := 0) (i := 0) rfl rfl dX12_read_273 ?_
      refine go_getI lf12_260 rfl hx.o dX12_read_274 ?_
      rw [g18]
      refine gn_mul dX12_read_277 ?_
      refine go_bipush (v := nI 8) (by decide) dX12_read_278 ?_
      refine go_aload_n (q := 0) (i := 0) rfl rfl dX12_read_280 ?_
      refine go_getR lf12_88 rfl hx.o hx.r37 dX12_read_281 ?_
      refine go_bipush (v := nI 12) (by decide) dX12_read_284 ?_
      refine go_aload_n (q := 0) (i := 0) rfl rfl dX12_read_286 ?_
      refine go_getI lf12_260 rfl hx.o dX12_read_287 ?_
      rw [g18]
      refine gn_mul dX12_read_290 ?_
      refine go_iload_n (q := 1) (i := 1) rfl rfl dX12_read_291 ?_
      refine gn_add dX12_read_292 ?_
      refine go_iald (j := ((12 * sd) + i)) hx.i37 (by omega) (by first | decide | omega) rfl dX12_read_293 ?_
      rw [e6 298 (by decide), (hU.2.2.2.2.1 i hi).2.1]
      refine gn_mul dX12_read_294 ?_
      refine gn_add dX12_read_295 ?_
      refine go_aload_n (q := 0) (i := 0) rfl rfl dX12_read_296 ?_
      refine go_getR lf12_85 rfl hx.o hx.r36 dX12_read_297 ?_
      refine go_bipush (v := nI 12) (by decide) dX12_read_300 ?_
      refine go_aload_n (q := 0) (i := 0) rfl rfl dX12_read_302 ?_
      refine go_getI lf12_260 rfl hx.o dX12_read_303 ?_
      rw [g18]
      refine gn_mul dX12_read_306 ?_
      refine go_iload_n (q := 1) (i := 1) rfl rfl dX12_read_307 ?_
      refine gn_add dX12_read_308 ?_
      refine go_iald (j := ((12 * sd) + i)) hx.i36 (by omega) (by first | decide | omega) rfl dX12_read_309 ?_
      rw [e6 297 (by decide), (hU.2.2.2.2.1 i hi).1]
      refine gn_add dX12_read_310 ?_
      refine go_aload_n (q := 0) (i := 0) rfl rfl dX12_read_311 ?_
      refine go_getR lf12_91 rfl hx.o hx.r38 dX12_read_312 ?_
      refine go_bipush (v := nI 12) (by decide) dX12_read_315 ?_
      refine go_aload_n (q := 0) (i := 0) rfl rfl dX12_read_317 ?_
      refine go_getI lf12_260 rfl hx.o dX12_read_318 ?_
      rw [g18]
      refine gn_mul dX12_read_321 ?_
      refine go_iload_n (q := 1) (i := 1) rfl rfl dX12_read_322 ?_
      refine gn_add dX12_read_323 ?_
      refine go_iald (j := ((12 * sd) + i)) hx.i38 (by omega) (by first | decide | omega) rfl dX12_read_324 ?_
      rw [e6 299 (by decide), (hU.2.2.2.2.1 i hi).2.2]
      refine go_iast (j := (((40 * sd) + (8 * ((D.bk i 1)))) + ((D.bk i 0)))) hx.i26 (by omega) (by first | decide | omega) rfl dX12_read_325 ?_
      refine gn_inc (i := 1) (a := i) (q := 1) rfl dX12_read_326 (nle rfl) rfl ?_
      refine go_goto (tgt := 254) dX12_read_329 (by decide) ?_
      refine ih _ (fun x a => by rw [gI_n a]; exact e6 x a) j6 n6 r6 (fun c hc => ?_)
      rw [gI_s, upd_c, bfo]
      by_cases e : 8 * D.bk i 1 + D.bk i 0 = c
      · rw [if_pos (by omega), if_pos e]
      · rw [if_neg (by omega), if_neg e]; exact hf c hc
  have k225 : ∀ k, k ≤ 40 → ∀ (m6 : Me), (∀ x, x ≠ 287 → gI m6 x = gI m5 x) → (∀ x, gJ m6 x = gJ m5 x) → m6.1 = m5.1 → gR m6 = gR m5 → (∀ j, j < k → gI m6 287 (40 * sd + j) = nI 0) → Go mX12_read (fun o m' => o = some (.int (nI (rdW B n z).1)) ∧ gI m' 274 17 = rdP B n z ∧ gI m' 274 2 = nI 0 ∧ WvR m' ∧ ((rdW B n z).1 ≠ 0 → FG sd m m') ∧ ((rdW B n z).1 = 0 → RrN m m' sd (plD D))) 225 [some (.ref 274), some (.int (nI k))] [] m6 0 0 := by
    refine loop_up 40 ?_ ?_
    · intro m6 e6 j6 n6 r6 hf
      have hx : Wf12 m6.1 (gR m6) := by rw [n6, r6]; exact hx
      have g18 : gI m6 274 18 = nI sd := by rw [e6 274 (by decide)]; exact f18
      refine go_iload_n (q := 1) (i := 1) rfl rfl dX12_read_225 ?_
      refine go_bipush (v := nI 40) (by decide) dX12_read_226 ?_
      refine gn_ge (by omega) (by omega) (tgt := 252) dX12_read_228 (by decide) (fun h228 => ?_) (fun h228 => by exfalso; omega)
      refine go_iconst (v := nI 0) (by decide) dX12_read_252 ?_
      refine go_istore_n (q := 1) (i := 1) rfl dX12_read_253 (nle rfl) (nle rfl) ?_
      exact k254 0 (Nat.zero_le _) m6 e6 j6 n6 r6 (fun c hc => hf c hc)
    · intro k hk ih m6 e6 j6 n6 r6 hf
      have hx : Wf12 m6.1 (gR m6) := by rw [n6, r6]; exact hx
      have g18 : gI m6 274 18 = nI sd := by rw [e6 274 (by decide)]; exact f18
      refine go_iload_n (q := 1) (i := 1) rfl rfl dX12_read_225 ?_
      refine go_bipush (v := nI 40) (by decide) dX12_read_226 ?_
      refine gn_ge (by omega) (by omega) (tgt := 252) dX12_read_228 (by decide) (fun h228 => by exfalso; omega) (fun h228 => ?_)
      refine go_aload_n (q := 0) (i := 0) rfl rfl dX12_read_231 ?_
      refine go_getR lf12_55 rfl hx.o hx.r26 dX12_read_232 ?_
      refine go_bipush (v := nI 40) (by decide) dX12_read_235 ?_
      refine go_aload_n (q := 0) (i := 0) rfl rfl dX12_read_237 ?_
      refine go_getI lf12_260 rfl hx.o dX12_read_238 ?_
      rw [g18]
      refine gn_mul dX12_read_241 ?_
      refine go_iload_n (q := 1) (i := 1) rfl rfl dX12_read_242 ?_
      refine gn_add dX12_read_243 ?_
      refine go_iconst (v := nI 0) (by decide) dX12_read_244 ?_
      refine go_iast (j := ((40 * sd) + k)) hx.i26 (by omega) (by first | decide | omega) rfl dX12_read_245 ?_
      refine gn_inc (i := 1) (a := k) (q := 1) rfl dX12_read_246 (nle rfl) rfl ?_
      refine go_goto (tgt := 225) dX12_read_249 (by decide) ?_
      refine ih _ (fun x a => by rw [gI_n a]; exact e6 x a) j6 n6 r6 (fun j hj => ?_)
      rw [gI_s, upd_c]
      by_cases e : j = k
      · rw [if_pos (by omega)]
      · rw [if_neg (by omega)]; exact hf j (by omega)
  exact k225 0 (Nat.zero_le _) m5 (fun x _ => rfl) (fun x => rfl) rfl rfl (fun j hj => absurd hj (Nat.not_lt_zero j))
