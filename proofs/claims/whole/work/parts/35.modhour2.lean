theorem uu {f : Nat → Int32} {k : Nat} {x y : Int32} : upd (upd f k x) k y = upd f k y := by
  funext j
  unfold upd
  by_cases e : j = k
  · rw [if_pos e, if_pos e]
  · rw [if_neg e, if_neg e, if_neg e]
theorem fgX_c {f f' w w' : Nat → Int32} {h : Int32} {y : Nat} {acc : Int32} (hy : y < 5) : ∀ x, x ≤ 8 → (∀ c, c < 40 → f c = f' c ∧ w c = w' c) → fgX f w h y acc x = fgX f' w' h y acc x
  | 0, _, _ => rfl
  | x + 1, hx, hf => by
    rw [fgX, fgX, fgX_c hy x (by omega) hf, (hf (8 * y + x) (by omega)).1, (hf (8 * y + x) (by omega)).2]
theorem fgY_c {f f' w w' : Nat → Int32} {h : Int32} {wd : Nat} (hw : wd ≤ 8) : ∀ y, y ≤ 5 → (∀ c, c < 40 → f c = f' c ∧ w c = w' c) → fgY f w h wd y = fgY f' w' h wd y
  | 0, _, _ => rfl
  | y + 1, hy, hf => by
    rw [fgY, fgY, fgY_c hw y (by omega) hf, fgX_c (by omega) wd hw hf]
/-- a row behind a step, behind the steps, thinned, an hour on, given -/
def r1M (P : Pl) (b : Int32) (r : Nat → Int32) : Nat → Int32 := fun k => if k < 40 then stY (tM P (eW (r 104) b) r 1) (nxS (nI P.wd) (nI P.rw) b) P.wd r P.rw k else r k
def f1M (P : Pl) (lots : Int32) (r : Nat → Int32) : Nat → Int32 := if wM P (r 104) ≤ 0 then r else if guS P.gu lots (r 104) = 0 then r1M P (wM P (r 104)) r else r1M P (wM P (r 104)) (r1M P (wM P (r 104)) r)
def thM (P : Pl) (b la : Int32) (r : Nat → Int32) (c : Nat) : Int32 := hlS (if nI c = la then hlS (r c - tM P (eW (r 104) b) r 2 c - P.le) (nI 0) (nI 9999) else r c - tM P (eW (r 104) b) r 2 c) (nI 0) (nI 99)
def prD (P : Pl) (y x k : Nat) : Prop := k < 40 ∧ k % 8 < P.wd ∧ (k / 8 < y ∨ (k / 8 = y ∧ k % 8 < x))
theorem prD_n {P : Pl} {y : Nat} (hw : P.wd ≤ 8) (k : Nat) : prD P y P.wd k ↔ prD P (y + 1) 0 k := by unfold prD; omega
theorem prD_s {P : Pl} {y x : Nat} (hx : x < P.wd) (hw : P.wd ≤ 8) (hy : y < 5) (k : Nat) : prD P y (x + 1) k ↔ (k = 8 * y + x ∨ prD P y x k) := by unfold prD; omega
/-- the row, some cells of it thinned -/
noncomputable def pwD (p : Nat → Prop) (t a : Nat → Int32) : Nat → Int32 := fun k => @ite _ (p k) (Classical.propDecidable (p k)) (t k) (a k)
theorem pwD_t {p : Nat → Prop} {t a : Nat → Int32} {k : Nat} (h : p k) : pwD p t a k = t k := if_pos h
theorem pwD_f {p : Nat → Prop} {t a : Nat → Int32} {k : Nat} (h : ¬ p k) : pwD p t a k = a k := if_neg h
theorem pwD_c {p p' : Nat → Prop} {t a : Nat → Int32} (h : ∀ k, p k ↔ p' k) : pwD p t a = pwD p' t a := by
  rw [show p = p' from funext fun k => propext (h k)]
theorem pwD_s {p p' : Nat → Prop} {t a : Nat → Int32} {c : Nat} (h : ∀ k, p' k ↔ (k = c ∨ p k)) : upd (pwD p t a) c (t c) = pwD p' t a := by
  funext k
  unfold upd
  by_cases e : k = c
  · subst e; rw [if_pos rfl, pwD_t ((h k).mpr (Or.inl rfl))]
  · rw [if_neg e]
    by_cases q : p k
    · rw [pwD_t q, pwD_t ((h k).mpr (Or.inr q))]
    · rw [pwD_f q, pwD_f (fun z => ((h k).mp z).elim e q)]
noncomputable def r2M (P : Pl) (b la : Int32) (r : Nat → Int32) : Nat → Int32 := pwD (prD P P.rw 0) (thM P b la r) r
def r3M (r : Nat → Int32) : Nat → Int32 := upd r 104 (r 104 + nI 1)
def gvM (P : Pl) (r : Nat → Int32) (h : Nat) : Int32 := hlS (r (80 + h) + hlS (P.lw 3 (eG (r 104) (fgY r (fun c => r (40 + c)) (nI h) P.wd P.rw) (r (80 + h)) (P.ra h) h)) (nI 0) (nI 99)) (nI 0) (nI 999)
def r4M (P : Pl) (n : Nat) (r : Nat → Int32) : Nat → Int32 := fun k => if 80 ≤ k ∧ k < 80 + n then gvM P r (k - 80) else r k
/-- a row, an hour later -/
noncomputable def hrM (P : Pl) (la lots : Int32) (r : Nat → Int32) : Nat → Int32 :=
  if r3M (r2M P (wM P (r 104)) la (f1M P lots r)) 104 - r3M (r2M P (wM P (r 104)) la (f1M P lots r)) 104 / nI 24 * nI 24 ≤ 0 then r4M P P.hd (r3M (r2M P (wM P (r 104)) la (f1M P lots r))) else r3M (r2M P (wM P (r 104)) la (f1M P lots r))
set_option maxRecDepth 100000 in
set_option maxHeartbeats 8000000 in
/-- hourGoes -/
theorem ex_hourGoes {m : Me} {P : Pl} {lv : Nat} (hx : Wf12 m.1 (gR m)) (hm : MdC m P lv) (ok : PlOk P) : Ev mX12_hourGoes [.ref 274] m (fun r m' => r = none ∧ Mh m m' ∧ gI m' 316 = hrM P (gI m 274 61) (gI m 274 60) (gI m 316)) := by
  refine ⟨plmX12_hourGoes, nle rfl, ?_⟩
  have hlv := hm.lv
  have hw8 := ok.1
  have hr5 := ok.2.1
  have hd4 := ok.2.2.1
  have hx0 := hx
  have hm0 := hm
  generalize hres : hrM P (gI m 274 61) (gI m 274 60) (gI m 316) = res
  generalize hb : wM P (gI m 316 104) = b
  generalize hrA : f1M P (gI m 274 60) (gI m 316) = rA
  have hA104 : rA 104 = gI m 316 104 := by
    rw [← hrA]
    unfold f1M
    split
    · rfl
    · split <;> simp [r1M]
  generalize hrC : r3M (r2M P b (gI m 274 61) rA) = rC
  have hres2 : (if rC 104 - rC 104 / nI 24 * nI 24 ≤ 0 then r4M P P.hd rC else rC) = res := by
    rw [← hres, ← hrC, ← hrA, ← hb]; rfl
  -- the stores
  have k3 : ∀ i, i ≤ P.hd → ∀ (mi : Me) (x3 x4 : Option Value), Mh m mi → gI mi 316 = r4M P i rC → r4M P P.hd rC = res → Go mX12_hourGoes (fun r m' => r = none ∧ Mh m m' ∧ gI m' 316 = res) 188 [some (.ref 274), some (.int b), some (.int (nI i)), x3, x4] [] mi 0 0 := by
    refine loop_up P.hd ?_ ?_
    · intro mi x3 x4 c1 e16 hr
      have hx := c1.1.wf hx0
      have hm := c1.1.md hm0
      refine go_iload_n (q := 2) (i := 2) rfl rfl dX12_hourGoes_188 ?_
      refine go_aload_n (q := 0) (i := 0) rfl rfl dX12_hourGoes_189 ?_
      refine go_getR lf12_58 rfl hx.o hx.r27 dX12_hourGoes_190 ?_
      refine go_aload_n (q := 0) (i := 0) rfl rfl dX12_hourGoes_193 ?_
      refine go_getI lf12_260 rfl hx.o dX12_hourGoes_194 ?_
      first | rw [hm.li] | rw [gI_n (show 274 ≠ 316 by decide), hm.li]
      refine go_iald (j := lv) hx.i27 (by omega) (by first | decide | omega) rfl dX12_hourGoes_197 ?_
      rw [hm.hd]
      refine gn_ge (by omega) (by omega) (tgt := 238) dX12_hourGoes_198 (by decide) (fun h198 => ?_) (fun h198 => by exfalso; omega)
      refine go_vret rfl ⟨Nat.zero_le _, Nat.zero_le _⟩ dX12_hourGoes_238 ?_
      exact ⟨rfl, c1, e16.trans hr⟩
    · intro i hi ih mi x3 x4 c1 e16 hr
      have hx := c1.1.wf hx0
      have hm := c1.1.md hm0
      have er : gI mi 316 (80 + i) = rC (80 + i) := by rw [e16]; exact if_neg (by omega)
      have eh : gI mi 316 104 = rC 104 := by rw [e16]; exact if_neg (by omega)
      have ef : ∀ h, fgY (gI mi 316) (fun c => gI mi 316 (40 + c)) h P.wd P.rw = fgY rC (fun c => rC (40 + c)) h P.wd P.rw := fun h => fgY_c hw8 P.rw hr5 (fun c hc => ⟨by rw [e16]; exact if_neg (by omega), by rw [e16]; exact if_neg (by omega)⟩)
      refine go_iload_n (q := 2) (i := 2) rfl rfl dX12_hourGoes_188 ?_
      refine go_aload_n (q := 0) (i := 0) rfl rfl dX12_hourGoes_189 ?_
      refine go_getR lf12_58 rfl hx.o hx.r27 dX12_hourGoes_190 ?_
      refine go_aload_n (q := 0) (i := 0) rfl rfl dX12_hourGoes_193 ?_
      refine go_getI lf12_260 rfl hx.o dX12_hourGoes_194 ?_
      first | rw [hm.li] | rw [gI_n (show 274 ≠ 316 by decide), hm.li]
      refine go_iald (j := lv) hx.i27 (by omega) (by first | decide | omega) rfl dX12_hourGoes_197 ?_
      rw [hm.hd]
      refine gn_ge (by omega) (by omega) (tgt := 238) dX12_hourGoes_198 (by decide) (fun h198 => by exfalso; omega) (fun h198 => ?_)
      refine go_aload_n (q := 0) (i := 0) rfl rfl dX12_hourGoes_201 ?_
      refine go_getR lf12_143 rfl hx.o hx.r59 dX12_hourGoes_202 ?_
      refine go_bipush (v := nI 80) (by decide) dX12_hourGoes_205 ?_
      refine go_iload_n (q := 2) (i := 2) rfl rfl dX12_hourGoes_207 ?_
      refine gn_add dX12_hourGoes_208 ?_
      refine go_aload_n (q := 0) (i := 0) rfl rfl dX12_hourGoes_209 ?_
      refine go_getR lf12_143 rfl hx.o hx.r59 dX12_hourGoes_210 ?_
      refine go_bipush (v := nI 80) (by decide) dX12_hourGoes_213 ?_
      refine go_iload_n (q := 2) (i := 2) rfl rfl dX12_hourGoes_215 ?_
      refine gn_add dX12_hourGoes_216 ?_
      refine go_iald (j := (80 + i)) hx.i59 (by omega) (by first | decide | omega) rfl dX12_hourGoes_217 ?_
      rw [er]
      refine go_aload_n (q := 0) (i := 0) rfl rfl dX12_hourGoes_218 ?_
      refine go_iload_n (q := 2) (i := 2) rfl rfl dX12_hourGoes_219 ?_
      refine go_callV okmX12_givesTo lmX12_407 ⟨nle rfl, nle rfl⟩ hx.o ⟨by decide, rfl⟩ (ex_givesTo hx hm ok hi) npmX12_givesTo rfl (nle rfl) ⟨nle rfl, nle rfl⟩ dX12_hourGoes_220 ?_
      rintro _ m2 ⟨rfl, c2, e2⟩
      rw [er, eh, ef]
      have c3 := c1.tr c2
      have hx := c3.1.wf hx0
      have hm := c3.1.md hm0
      refine go_c1 ?_
      refine go_iadd dX12_hourGoes_223 ?_
      refine go_iconst (v := nI 0) (by decide) dX12_hourGoes_224 ?_
      refine go_sipush (v := nI 999) (by decide) dX12_hourGoes_225 ?_
      refine go_callS okmX12_held lmX12_384 ⟨nle rfl, nle rfl⟩ (ex_held) npmX12_held rfl (nle rfl) ⟨nle rfl, nle rfl⟩ dX12_hourGoes_228 ?_
      rintro _ mz ⟨rfl, hz⟩
      subst mz
      refine go_c1 ?_
      refine go_iast (j := (80 + i)) hx.i59 (by omega) (by first | decide | omega) rfl dX12_hourGoes_231 ?_
      refine gn_inc (i := 2) (a := i) (q := 1) rfl dX12_hourGoes_232 (nle rfl) rfl ?_
      refine go_goto (tgt := 188) dX12_hourGoes_235 (by decide) ?_
      refine ih _ _ _ (c3.tr (Mh.of (Ch.I (Or.inr (Or.inr (Or.inl rfl)))))) ?_ hr
      rw [gI_s, e2, e16]
      funext k
      unfold upd r4M
      by_cases e : k = 80 + i
      · subst e
        rw [if_pos rfl, if_pos (by omega), show 80 + i - 80 = i by omega]
        rfl
      · rw [if_neg e]
        by_cases q : 80 ≤ k ∧ k < 80 + i
        · rw [if_pos q, if_pos (by omega)]
        · rw [if_neg q, if_neg (by omega)]
  -- the cells thin
  have key : ∀ y, y ≤ P.rw → ∀ (mi : Me) (x3 x4 : Option Value), Mh m mi → gI mi 316 = pwD (prD P y 0) (thM P b (gI m 274 61) rA) rA → Go mX12_hourGoes (fun r m' => r = none ∧ Mh m m' ∧ gI m' 316 = res) 35 [some (.ref 274), some (.int b), some (.int (nI y)), x3, x4] [] mi 0 0 := by
    refine loop_up P.rw ?_ ?_
    · intro mi x3 x4 c1 e16
      have hx := c1.1.wf hx0
      have hm := c1.1.md hm0
      have eC : upd (gI mi 316) 104 (gI mi 316 104 + nI 1) = rC := by rw [← hrC, e16]; rfl
      refine go_iload_n (q := 2) (i := 2) rfl rfl dX12_hourGoes_35 ?_
      refine go_aload_n (q := 0) (i := 0) rfl rfl dX12_hourGoes_36 ?_
      refine go_getR lf12_49 rfl hx.o hx.r24 dX12_hourGoes_37 ?_
      refine go_aload_n (q := 0) (i := 0) rfl rfl dX12_hourGoes_40 ?_
      refine go_getI lf12_260 rfl hx.o dX12_hourGoes_41 ?_
      first | rw [hm.li] | rw [gI_n (show 274 ≠ 316 by decide), hm.li]
      refine go_iald (j := lv) hx.i24 (by omega) (by first | decide | omega) rfl dX12_hourGoes_44 ?_
      rw [hm.rw]
      refine gn_ge (by omega) (by omega) (tgt := 161) dX12_hourGoes_45 (by decide) (fun h45 => ?_) (fun h45 => by exfalso; omega)
      refine go_aload_n (q := 0) (i := 0) rfl rfl dX12_hourGoes_161 ?_
      refine go_getR lf12_143 rfl hx.o hx.r59 dX12_hourGoes_162 ?_
      refine go_bipush (v := nI 104) (by decide) dX12_hourGoes_165 ?_
      refine go_dup2 rfl rfl dX12_hourGoes_167 ?_
      refine go_iald (j := 104) hx.i59 (by omega) (by first | decide | omega) rfl dX12_hourGoes_168 ?_
      refine go_iconst (v := nI 1) (by decide) dX12_hourGoes_169 ?_
      refine go_iadd dX12_hourGoes_170 ?_
      refine go_iast (j := 104) hx.i59 (by omega) (by first | decide | omega) rfl dX12_hourGoes_171 ?_
      rw [eC]
      generalize hmS : sI mi 316 rC = mS
      have cS : Mh m mS := c1.tr (Mh.of (by rw [← hmS]; exact Ch.I (Or.inr (Or.inr (Or.inl rfl)))))
      have eS : gI mS 316 = rC := by rw [← hmS, gI_s]
      have hx := cS.1.wf hx0
      have hm := cS.1.md hm0
      refine go_aload_n (q := 0) (i := 0) rfl rfl dX12_hourGoes_172 ?_
      refine go_getR lf12_143 rfl hx.o hx.r59 dX12_hourGoes_173 ?_
      refine go_bipush (v := nI 104) (by decide) dX12_hourGoes_176 ?_
      refine go_iald (j := 104) hx.i59 (by omega) (by first | decide | omega) rfl dX12_hourGoes_178 ?_
      rw [eS]
      refine go_bipush (v := nI 24) (by decide) dX12_hourGoes_179 ?_
      refine go_irem (by decide) dX12_hourGoes_181 ?_
      refine go_if_le (tgt := 186) dX12_hourGoes_182 (by decide) (fun h182 => ?_) (fun h182 => ?_)
      · skip
        refine go_iconst (v := nI 0) (by decide) dX12_hourGoes_186 ?_
        refine go_istore_n (q := 2) (i := 2) rfl dX12_hourGoes_187 (nle rfl) (nle rfl) ?_
        rw [if_pos h182] at hres2
        exact k3 0 (Nat.zero_le _) mS _ _ cS (by rw [eS]; funext k; exact (if_neg (by omega)).symm) hres2
      · skip
        refine go_vret rfl ⟨Nat.zero_le _, Nat.zero_le _⟩ dX12_hourGoes_185 ?_
        rw [if_neg h182] at hres2
        exact ⟨rfl, cS, eS.trans hres2⟩
    · intro y hi ih mi x3 x4 c1 e16
      have hx := c1.1.wf hx0
      have hm := c1.1.md hm0
      have key2 : ∀ x, x ≤ P.wd → ∀ (mi : Me) (x4 : Option Value), Mh m mi → gI mi 316 = pwD (prD P y x) (thM P b (gI m 274 61) rA) rA → Go mX12_hourGoes (fun r m' => r = none ∧ Mh m m' ∧ gI m' 316 = res) 50 [some (.ref 274), some (.int b), some (.int (nI y)), some (.int (nI x)), x4] [] mi 0 0 := by
        refine loop_up P.wd ?_ ?_
        · intro mi x4 c1 e16
          have hx := c1.1.wf hx0
          have hm := c1.1.md hm0
          refine go_iload_n (q := 3) (i := 3) rfl rfl dX12_hourGoes_50 ?_
          refine go_aload_n (q := 0) (i := 0) rfl rfl dX12_hourGoes_51 ?_
          refine go_getR lf12_46 rfl hx.o hx.r23 dX12_hourGoes_52 ?_
          refine go_aload_n (q := 0) (i := 0) rfl rfl dX12_hourGoes_55 ?_
          refine go_getI lf12_260 rfl hx.o dX12_hourGoes_56 ?_
          first | rw [hm.li] | rw [gI_n (show 274 ≠ 316 by decide), hm.li]
          refine go_iald (j := lv) hx.i23 (by omega) (by first | decide | omega) rfl dX12_hourGoes_59 ?_
          rw [hm.wd]
          refine gn_ge (by omega) (by omega) (tgt := 155) dX12_hourGoes_60 (by decide) (fun h60 => ?_) (fun h60 => by exfalso; omega)
          refine gn_inc (i := 2) (a := y) (q := 1) rfl dX12_hourGoes_155 (nle rfl) rfl ?_
          refine go_goto (tgt := 35) dX12_hourGoes_158 (by decide) ?_
          exact ih mi _ _ c1 (by rw [e16]; exact pwD_c (prD_n hw8))
        · intro x hj ih2 mi x4 c1 e16
          have hx := c1.1.wf hx0
          have hm := c1.1.md hm0
          have hnp : ∀ k, 40 ≤ k → ¬ prD P y x k := fun k hk q => by unfold prD at q; omega
          have hnc : ¬ prD P y x (8 * y + x) := fun q => by unfold prD at q; omega
          have ec : gI mi 316 (8 * y + x) = rA (8 * y + x) := by rw [e16, pwD_f hnc]
          have ew : gI mi 316 (40 + (8 * y + x)) = rA (40 + (8 * y + x)) := by rw [e16, pwD_f (hnp _ (by omega))]
          have eh : gI mi 316 104 = rA 104 := by rw [e16, pwD_f (hnp _ (by omega))]
          refine go_iload_n (q := 3) (i := 3) rfl rfl dX12_hourGoes_50 ?_
          refine go_aload_n (q := 0) (i := 0) rfl rfl dX12_hourGoes_51 ?_
          refine go_getR lf12_46 rfl hx.o hx.r23 dX12_hourGoes_52 ?_
          refine go_aload_n (q := 0) (i := 0) rfl rfl dX12_hourGoes_55 ?_
          refine go_getI lf12_260 rfl hx.o dX12_hourGoes_56 ?_
          first | rw [hm.li] | rw [gI_n (show 274 ≠ 316 by decide), hm.li]
          refine go_iald (j := lv) hx.i23 (by omega) (by first | decide | omega) rfl dX12_hourGoes_59 ?_
          rw [hm.wd]
          refine gn_ge (by omega) (by omega) (tgt := 155) dX12_hourGoes_60 (by decide) (fun h60 => by exfalso; omega) (fun h60 => ?_)
          refine go_bipush (v := nI 8) (by decide) dX12_hourGoes_63 ?_
          refine go_iload_n (q := 2) (i := 2) rfl rfl dX12_hourGoes_65 ?_
          refine gn_mul dX12_hourGoes_66 ?_
          refine go_iload_n (q := 3) (i := 3) rfl rfl dX12_hourGoes_67 ?_
          refine gn_add dX12_hourGoes_68 ?_
          refine go_istore (i := 4) dX12_hourGoes_69 (nle rfl) (nle rfl) ?_
          refine go_aload_n (q := 0) (i := 0) rfl rfl dX12_hourGoes_71 ?_
          refine go_getR lf12_143 rfl hx.o hx.r59 dX12_hourGoes_72 ?_
          refine go_iload (i := 4) rfl dX12_hourGoes_75 ?_
          refine go_dup2 rfl rfl dX12_hourGoes_77 ?_
          refine go_iald (j := ((8 * y) + x)) hx.i59 (by omega) (by first | decide | omega) rfl dX12_hourGoes_78 ?_
          rw [ec]
          refine go_aload_n (q := 0) (i := 0) rfl rfl dX12_hourGoes_79 ?_
          refine go_iconst (v := nI 2) (by decide) dX12_hourGoes_80 ?_
          refine go_iload_n (q := 3) (i := 3) rfl rfl dX12_hourGoes_81 ?_
          refine go_iload_n (q := 2) (i := 2) rfl rfl dX12_hourGoes_82 ?_
          refine go_iload_n (q := 1) (i := 1) rfl rfl dX12_hourGoes_83 ?_
          refine go_callV okmX12_cellTells lmX12_390 ⟨nle rfl, nle rfl⟩ hx.o ⟨by decide, rfl⟩ (ex_cellTells hx hm ok (Or.inr rfl) (by omega) (by omega)) npmX12_cellTells rfl (nle rfl) ⟨nle rfl, nle rfl⟩ dX12_hourGoes_84 ?_
          rintro _ m2 ⟨rfl, cc, e2, e2b⟩
          rw [show tM P (eW (gI mi 316 104) b) (gI mi 316) 2 (8 * y + x) = tM P (eW (rA 104) b) rA 2 (8 * y + x) by unfold tM; rw [eh, ec, ew]]
          have c2 := c1.tr cc
          have hx := c2.1.wf hx0
          have hm := c2.1.md hm0
          refine go_c1 ?_
          refine go_isub dX12_hourGoes_87 ?_
          refine go_iast (j := ((8 * y) + x)) hx.i59 (by omega) (by first | decide | omega) rfl dX12_hourGoes_88 ?_
          refine go_iload (i := 4) rfl dX12_hourGoes_89 ?_
          refine go_aload_n (q := 0) (i := 0) rfl rfl dX12_hourGoes_91 ?_
          refine go_getI lf12_368 rfl hx.o dX12_hourGoes_92 ?_
          rw [gI_n (show 274 ≠ 316 by decide), c2.2.2]
          refine go_icmp_ne (tgt := 129) dX12_hourGoes_95 (by decide) (fun h95 => ?_) (fun h95 => ?_)
          · skip
            refine go_aload_n (q := 0) (i := 0) rfl rfl dX12_hourGoes_129 ?_
            refine go_getR lf12_143 rfl hx.o hx.r59 dX12_hourGoes_130 ?_
            refine go_iload (i := 4) rfl dX12_hourGoes_133 ?_
            refine go_aload_n (q := 0) (i := 0) rfl rfl dX12_hourGoes_135 ?_
            refine go_getR lf12_143 rfl hx.o hx.r59 dX12_hourGoes_136 ?_
            refine go_iload (i := 4) rfl dX12_hourGoes_139 ?_
            refine go_iald (j := ((8 * y) + x)) hx.i59 (by omega) (by first | decide | omega) rfl dX12_hourGoes_141 ?_
            rw [gI_s, pk_us]
            refine go_iconst (v := nI 0) (by decide) dX12_hourGoes_142 ?_
            refine go_bipush (v := nI 99) (by decide) dX12_hourGoes_143 ?_
            refine go_callS okmX12_held lmX12_384 ⟨nle rfl, nle rfl⟩ (ex_held) npmX12_held rfl (nle rfl) ⟨nle rfl, nle rfl⟩ dX12_hourGoes_145 ?_
            rintro _ mz ⟨rfl, hz⟩
            subst mz
            refine go_c1 ?_
            refine go_iast (j := ((8 * y) + x)) hx.i59 (by omega) (by first | decide | omega) rfl dX12_hourGoes_148 ?_
            rw [sI_sI, gI_s, uu]
            refine gn_inc (i := 3) (a := x) (q := 1) rfl dX12_hourGoes_149 (nle rfl) rfl ?_
            refine go_goto (tgt := 50) dX12_hourGoes_152 (by decide) ?_
            refine ih2 _ _ (c2.tr (Mh.of (Ch.I (Or.inr (Or.inr (Or.inl rfl)))))) ?_
            rw [gI_s, e2, e16, ← pwD_s (prD_s hj hw8 (by omega))]
            congr 1
            unfold thM
            first | rw [if_pos h95] | rw [if_neg h95]
          · skip
            refine go_aload_n (q := 0) (i := 0) rfl rfl dX12_hourGoes_98 ?_
            refine go_getR lf12_143 rfl hx.o hx.r59 dX12_hourGoes_99 ?_
            refine go_iload (i := 4) rfl dX12_hourGoes_102 ?_
            refine go_aload_n (q := 0) (i := 0) rfl rfl dX12_hourGoes_104 ?_
            refine go_getR lf12_143 rfl hx.o hx.r59 dX12_hourGoes_105 ?_
            refine go_iload (i := 4) rfl dX12_hourGoes_108 ?_
            refine go_iald (j := ((8 * y) + x)) hx.i59 (by omega) (by first | decide | omega) rfl dX12_hourGoes_110 ?_
            rw [gI_s, pk_us]
            refine go_aload_n (q := 0) (i := 0) rfl rfl dX12_hourGoes_111 ?_
            refine go_getR lf12_97 rfl hx.o hx.r40 dX12_hourGoes_112 ?_
            refine go_aload_n (q := 0) (i := 0) rfl rfl dX12_hourGoes_115 ?_
            refine go_getI lf12_260 rfl hx.o dX12_hourGoes_116 ?_
            first | rw [hm.li] | rw [gI_n (show 274 ≠ 316 by decide), hm.li]
            refine go_iald (j := lv) hx.i40 (by omega) (by first | decide | omega) rfl dX12_hourGoes_119 ?_
            first | rw [hm.le] | rw [gI_n (show 301 ≠ 316 by decide), hm.le]
            refine go_isub dX12_hourGoes_120 ?_
            refine go_iconst (v := nI 0) (by decide) dX12_hourGoes_121 ?_
            refine go_sipush (v := nI 9999) (by decide) dX12_hourGoes_122 ?_
            refine go_callS okmX12_held lmX12_384 ⟨nle rfl, nle rfl⟩ (ex_held) npmX12_held rfl (nle rfl) ⟨nle rfl, nle rfl⟩ dX12_hourGoes_125 ?_
            rintro _ mz ⟨rfl, hz⟩
            subst mz
            refine go_c1 ?_
            refine go_iast (j := ((8 * y) + x)) hx.i59 (by omega) (by first | decide | omega) rfl dX12_hourGoes_128 ?_
            rw [sI_sI, gI_s, uu]
            refine go_aload_n (q := 0) (i := 0) rfl rfl dX12_hourGoes_129 ?_
            refine go_getR lf12_143 rfl hx.o hx.r59 dX12_hourGoes_130 ?_
            refine go_iload (i := 4) rfl dX12_hourGoes_133 ?_
            refine go_aload_n (q := 0) (i := 0) rfl rfl dX12_hourGoes_135 ?_
            refine go_getR lf12_143 rfl hx.o hx.r59 dX12_hourGoes_136 ?_
            refine go_iload (i := 4) rfl dX12_hourGoes_139 ?_
            refine go_iald (j := ((8 * y) + x)) hx.i59 (by omega) (by first | decide | omega) rfl dX12_hourGoes_141 ?_
            rw [gI_s, pk_us]
            refine go_iconst (v := nI 0) (by decide) dX12_hourGoes_142 ?_
            refine go_bipush (v := nI 99) (by decide) dX12_hourGoes_143 ?_
            refine go_callS okmX12_held lmX12_384 ⟨nle rfl, nle rfl⟩ (ex_held) npmX12_held rfl (nle rfl) ⟨nle rfl, nle rfl⟩ dX12_hourGoes_145 ?_
            rintro _ mz ⟨rfl, hz⟩
            subst mz
            refine go_c1 ?_
            refine go_iast (j := ((8 * y) + x)) hx.i59 (by omega) (by first | decide | omega) rfl dX12_hourGoes_148 ?_
            rw [sI_sI, gI_s, uu]
            refine gn_inc (i := 3) (a := x) (q := 1) rfl dX12_hourGoes_149 (nle rfl) rfl ?_
            refine go_goto (tgt := 50) dX12_hourGoes_152 (by decide) ?_
            refine ih2 _ _ (c2.tr (Mh.of (Ch.I (Or.inr (Or.inr (Or.inl rfl)))))) ?_
            rw [gI_s, e2, e16, ← pwD_s (prD_s hj hw8 (by omega))]
            congr 1
            unfold thM
            first | rw [if_pos h95] | rw [if_neg h95]
      refine go_iload_n (q := 2) (i := 2) rfl rfl dX12_hourGoes_35 ?_
      refine go_aload_n (q := 0) (i := 0) rfl rfl dX12_hourGoes_36 ?_
      refine go_getR lf12_49 rfl hx.o hx.r24 dX12_hourGoes_37 ?_
      refine go_aload_n (q := 0) (i := 0) rfl rfl dX12_hourGoes_40 ?_
      refine go_getI lf12_260 rfl hx.o dX12_hourGoes_41 ?_
      first | rw [hm.li] | rw [gI_n (show 274 ≠ 316 by decide), hm.li]
      refine go_iald (j := lv) hx.i24 (by omega) (by first | decide | omega) rfl dX12_hourGoes_44 ?_
      rw [hm.rw]
      refine gn_ge (by omega) (by omega) (tgt := 161) dX12_hourGoes_45 (by decide) (fun h45 => by exfalso; omega) (fun h45 => ?_)
      refine go_iconst (v := nI 0) (by decide) dX12_hourGoes_48 ?_
      refine go_istore_n (q := 3) (i := 3) rfl dX12_hourGoes_49 (nle rfl) (nle rfl) ?_
      exact key2 0 (Nat.zero_le _) mi _ c1 e16
  refine go_aload_n (q := 0) (i := 0) rfl rfl dX12_hourGoes_0 ?_
  refine go_aload_n (q := 0) (i := 0) rfl rfl dX12_hourGoes_1 ?_
  refine go_getR lf12_143 rfl hx.o hx.r59 dX12_hourGoes_2 ?_
  refine go_bipush (v := nI 104) (by decide) dX12_hourGoes_5 ?_
  refine go_iald (j := 104) hx.i59 (by omega) (by first | decide | omega) rfl dX12_hourGoes_7 ?_
  refine go_callV okmX12_windIn lmX12_398 ⟨nle rfl, nle rfl⟩ hx.o ⟨by decide, rfl⟩ (ex_windIn hx hm ok) npmX12_windIn rfl (nle rfl) ⟨nle rfl, nle rfl⟩ dX12_hourGoes_8 ?_
  rintro _ m1 ⟨rfl, c1, e1⟩
  rw [hb]
  have hx := c1.1.wf hx0
  have hm := c1.1.md hm0
  refine go_c1 ?_
  refine go_istore_n (q := 1) (i := 1) rfl dX12_hourGoes_11 (nle rfl) (nle rfl) ?_
  refine go_iload_n (q := 1) (i := 1) rfl rfl dX12_hourGoes_12 ?_
  refine go_if_le (tgt := 33) dX12_hourGoes_13 (by decide) (fun h13 => ?_) (fun h13 => ?_)
  · skip
    refine go_iconst (v := nI 0) (by decide) dX12_hourGoes_33 ?_
    refine go_istore_n (q := 2) (i := 2) rfl dX12_hourGoes_34 (nle rfl) (nle rfl) ?_
    exact key 0 (Nat.zero_le _) _ _ _ c1 (by rw [e1, ← hrA]; unfold f1M; rw [hb, if_pos h13]; exact (funext fun k => pwD_f (fun q => by unfold prD at q; omega)).symm)
  · skip
    refine go_aload_n (q := 0) (i := 0) rfl rfl dX12_hourGoes_16 ?_
    refine go_iload_n (q := 1) (i := 1) rfl rfl dX12_hourGoes_17 ?_
    refine go_callV okmX12_steps lmX12_401 ⟨nle rfl, nle rfl⟩ hx.o ⟨by decide, rfl⟩ (ex_steps hx hm ok) npmX12_steps rfl (nle rfl) ⟨nle rfl, nle rfl⟩ dX12_hourGoes_18 ?_
    rintro _ m2 ⟨rfl, c2, hf2, hg2⟩
    have c2 := c1.tr c2
    have e2 : gI m2 316 = r1M P b (gI m 316) := by
      rw [← e1]
      funext k
      unfold r1M
      by_cases q : k < 40
      · rw [if_pos q]; exact hf2 k q
      · rw [if_neg q]; exact hg2 k (by omega)
    have e2h : gI m2 316 104 = gI m 316 104 := by rw [e2]; rfl
    have hx := c2.1.wf hx0
    have hm := c2.1.md hm0
    refine go_c0 ?_
    refine go_aload_n (q := 0) (i := 0) rfl rfl dX12_hourGoes_21 ?_
    refine go_callV okmX12_isGust lmX12_404 ⟨nle rfl, nle rfl⟩ hx.o ⟨by decide, rfl⟩ (ex_isGust hx hm) npmX12_isGust rfl (nle rfl) ⟨nle rfl, nle rfl⟩ dX12_hourGoes_22 ?_
    rintro _ mz ⟨rfl, hz⟩
    subst mz
    rw [c2.2.1, e2h]
    refine go_c1 ?_
    refine go_if_eq (tgt := 33) dX12_hourGoes_25 (by decide) (fun h25 => ?_) (fun h25 => ?_)
    · skip
      refine go_iconst (v := nI 0) (by decide) dX12_hourGoes_33 ?_
      refine go_istore_n (q := 2) (i := 2) rfl dX12_hourGoes_34 (nle rfl) (nle rfl) ?_
      exact key 0 (Nat.zero_le _) _ _ _ c2 (by rw [e2, ← hrA]; unfold f1M; rw [hb, if_neg h13, if_pos h25]; exact (funext fun k => pwD_f (fun q => by unfold prD at q; omega)).symm)
    · skip
      refine go_aload_n (q := 0) (i := 0) rfl rfl dX12_hourGoes_28 ?_
      refine go_iload_n (q := 1) (i := 1) rfl rfl dX12_hourGoes_29 ?_
      refine go_callV okmX12_steps lmX12_401 ⟨nle rfl, nle rfl⟩ hx.o ⟨by decide, rfl⟩ (ex_steps hx hm ok) npmX12_steps rfl (nle rfl) ⟨nle rfl, nle rfl⟩ dX12_hourGoes_30 ?_
      rintro _ m3 ⟨rfl, c3, hf3, hg3⟩
      have c3 := c2.tr c3
      have e3 : gI m3 316 = r1M P b (r1M P b (gI m 316)) := by
        rw [← e2]
        funext k
        unfold r1M
        by_cases q : k < 40
        · rw [if_pos q]; exact hf3 k q
        · rw [if_neg q]; exact hg3 k (by omega)
      have hx := c3.1.wf hx0
      have hm := c3.1.md hm0
      refine go_c0 ?_
      refine go_iconst (v := nI 0) (by decide) dX12_hourGoes_33 ?_
      refine go_istore_n (q := 2) (i := 2) rfl dX12_hourGoes_34 (nle rfl) (nle rfl) ?_
      exact key 0 (Nat.zero_le _) _ _ _ c3 (by rw [e3, ← hrA]; unfold f1M; rw [hb, if_neg h13, if_neg h25]; exact (funext fun k => pwD_f (fun q => by unfold prD at q; omega)).symm)
