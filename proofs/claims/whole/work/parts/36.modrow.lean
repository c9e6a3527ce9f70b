/-- n hours later -/
noncomputable def hrN (P : Pl) (la lots : Int32) : Nat → (Nat → Int32) → Nat → Int32
  | 0, r => r
  | n + 1, r => hrM P la lots (hrN P la lots n r)
set_option maxRecDepth 100000 in
set_option maxHeartbeats 4000000 in
theorem ex_goes {m : Me} {P : Pl} {lv : Nat} (hx : Wf12 m.1 (gR m)) (hm : MdC m P lv) {n : Nat} (ok : PlOk P) (hn : n < 2 ^ 31) : Ev mX12_goes [.ref 274, .int (nI n)] m (fun r m' => r = none ∧ Mh m m' ∧ gI m' 316 = hrN P (gI m 274 61) (gI m 274 60) n (gI m 316)) := by
  refine ⟨plmX12_goes, nle rfl, ?_⟩
  have hx0 := hx
  have hm0 := hm
  have key : ∀ i, i ≤ n → ∀ (mi : Me), Mh m mi → gI mi 316 = hrN P (gI m 274 61) (gI m 274 60) i (gI m 316) → Go mX12_goes (fun r m' => r = none ∧ Mh m m' ∧ gI m' 316 = hrN P (gI m 274 61) (gI m 274 60) n (gI m 316)) 2 [some (.ref 274), some (.int (nI n)), some (.int (nI i))] [] (mi) 0 0 := by
    refine loop_up n ?_ ?_
    · intro mi c1 e1
      have hx := c1.1.wf hx0
      have hm := c1.1.md hm0
      refine go_iload_n (q := 2) (i := 2) rfl rfl dX12_goes_2 ?_
      refine go_iload_n (q := 1) (i := 1) rfl rfl dX12_goes_3 ?_
      refine gn_ge (by omega) (by omega) (tgt := 17) dX12_goes_4 (by decide) (fun h4 => ?_) (fun h4 => by exfalso; omega)
      refine go_vret rfl ⟨Nat.zero_le _, Nat.zero_le _⟩ dX12_goes_17 ?_
      exact ⟨rfl, c1, e1⟩
    · intro i hi ih mi c1 e1
      have hx := c1.1.wf hx0
      have hm := c1.1.md hm0
      refine go_iload_n (q := 2) (i := 2) rfl rfl dX12_goes_2 ?_
      refine go_iload_n (q := 1) (i := 1) rfl rfl dX12_goes_3 ?_
      refine gn_ge (by omega) (by omega) (tgt := 17) dX12_goes_4 (by decide) (fun h4 => by exfalso; omega) (fun h4 => ?_)
      refine go_aload_n (q := 0) (i := 0) rfl rfl dX12_goes_7 ?_
      refine go_callV okmX12_hourGoes lmX12_410 ⟨nle rfl, nle rfl⟩ hx.o ⟨by decide, rfl⟩ (ex_hourGoes hx hm ok) npmX12_hourGoes rfl (nle rfl) ⟨nle rfl, nle rfl⟩ dX12_goes_8 ?_
      rintro _ m2 ⟨rfl, c2, e2⟩
      refine go_c0 ?_
      refine gn_inc (i := 2) (a := i) (q := 1) rfl dX12_goes_11 (nle rfl) rfl ?_
      refine go_goto (tgt := 2) dX12_goes_14 (by decide) ?_
      refine ih _ (c1.tr c2) ?_
      rw [e2, e1, c1.2.1, c1.2.2]
      rfl
  have k0 := key 0 (Nat.zero_le _) m Mh.rf rfl
  refine go_iconst (v := nI 0) (by decide) dX12_goes_0 ?_
  refine go_istore_n (q := 2) (i := 2) rfl dX12_goes_1 (nle rfl) (nle rfl) ?_
  exact k0
set_option maxRecDepth 100000 in
set_option maxHeartbeats 4000000 in
theorem ex_copies {m : Me} {P : Pl} {lv : Nat} (hx : Wf12 m.1 (gR m)) (hm : MdC m P lv) : Ev mX12_copies [.ref 274] m (fun r m' => r = none ∧ Mo m m' ∧ gI m' 316 = cp 105 (gI m 315) (gI m 316) ∧ gI m' 274 60 = P.se ∧ gI m' 274 61 = -1 ∧ gI m' 274 57 = gI m 274 57) := by
  refine ⟨plmX12_copies, nle rfl, ?_⟩
  have hlv := hm.lv
  have key : ∀ i, i ≤ 105 → Go mX12_copies (fun r m' => r = none ∧ Mo m m' ∧ gI m' 316 = cp 105 (gI m 315) (gI m 316) ∧ gI m' 274 60 = P.se ∧ gI m' 274 61 = -1 ∧ gI m' 274 57 = gI m 274 57) 2 [some (.ref 274), some (.int (nI i))] [] (sI m 316 (cp i (gI m 315) (gI m 316))) 0 0 := by
    refine loop_up 105 ?_ ?_
    · skip
      refine go_iload_n (q := 1) (i := 1) rfl rfl dX12_copies_2 ?_
      refine go_bipush (v := nI 105) (by decide) dX12_copies_3 ?_
      refine gn_ge (by omega) (by omega) (tgt := 26) dX12_copies_5 (by decide) (fun h5 => ?_) (fun h5 => by exfalso; omega)
      refine go_aload_n (q := 0) (i := 0) rfl rfl dX12_copies_26 ?_
      refine go_aload_n (q := 0) (i := 0) rfl rfl dX12_copies_27 ?_
      refine go_getR lf12_100 rfl hx.o hx.r41 dX12_copies_28 ?_
      refine go_aload_n (q := 0) (i := 0) rfl rfl dX12_copies_31 ?_
      refine go_getI lf12_260 rfl hx.o dX12_copies_32 ?_
      rw [gI_n (show 274 ≠ 316 by decide), hm.li]
      refine go_iald (j := lv) hx.i41 (by omega) (by first | decide | omega) rfl dX12_copies_35 ?_
      rw [gI_n (show 302 ≠ 316 by decide), hm.se]
      refine go_putI lf12_365 rfl (Or.inl rfl) hx.o dX12_copies_36 ?_
      refine go_aload_n (q := 0) (i := 0) rfl rfl dX12_copies_39 ?_
      refine go_iconst (v := -1) (by decide) dX12_copies_40 ?_
      refine go_putI lf12_368 rfl (Or.inl rfl) hx.o dX12_copies_41 ?_
      refine go_vret rfl ⟨Nat.zero_le _, Nat.zero_le _⟩ dX12_copies_44 ?_
      refine ⟨rfl, ⟨((Ch.I (by decide)).tr (Ch.I (by decide))).tr (Ch.I (by decide)), fun k h1 h2 h3 => ?_⟩, ?_, ?_, ?_, ?_⟩
      · rw [gI_s, gI_s]
        unfold upd
        rw [if_neg h3, if_neg h2, gI_n (by decide)]
      · rw [gI_n (by decide), gI_n (by decide), gI_s]
      · rw [gI_s, gI_s]; rfl
      · rw [gI_s, gI_s]; rfl
      · rw [gI_s, gI_s]
        unfold upd
        rw [if_neg (by decide), if_neg (by decide), gI_n (by decide)]
    · intro i hi ih
      refine go_iload_n (q := 1) (i := 1) rfl rfl dX12_copies_2 ?_
      refine go_bipush (v := nI 105) (by decide) dX12_copies_3 ?_
      refine gn_ge (by omega) (by omega) (tgt := 26) dX12_copies_5 (by decide) (fun h5 => by exfalso; omega) (fun h5 => ?_)
      refine go_aload_n (q := 0) (i := 0) rfl rfl dX12_copies_8 ?_
      refine go_getR lf12_143 rfl hx.o hx.r59 dX12_copies_9 ?_
      refine go_iload_n (q := 1) (i := 1) rfl rfl dX12_copies_12 ?_
      refine go_aload_n (q := 0) (i := 0) rfl rfl dX12_copies_13 ?_
      refine go_getR lf12_140 rfl hx.o hx.r58 dX12_copies_14 ?_
      refine go_iload_n (q := 1) (i := 1) rfl rfl dX12_copies_17 ?_
      refine go_iald (j := i) hx.i58 (by omega) (by first | decide | omega) rfl dX12_copies_18 ?_
      refine go_iast (j := i) hx.i59 (by omega) (by first | decide | omega) rfl dX12_copies_19 ?_
      rw [sI_sI, gI_s, gI_n (show 315 ≠ 316 by decide), cp_s]
      refine gn_inc (i := 1) (a := i) (q := 1) rfl dX12_copies_20 (nle rfl) rfl ?_
      refine go_goto (tgt := 2) dX12_copies_23 (by decide) ?_
      exact ih
  have k0 := key 0 (Nat.zero_le _)
  rw [cp_0, sI_self] at k0
  refine go_iconst (v := nI 0) (by decide) dX12_copies_0 ?_
  refine go_istore_n (q := 1) (i := 1) rfl dX12_copies_1 (nle rfl) (nle rfl) ?_
  exact k0
set_option maxRecDepth 100000 in
set_option maxHeartbeats 4000000 in
theorem ex_keepsRow {m : Me} (hx : Wf12 m.1 (gR m)) : Ev mX12_keepsRow [.ref 274] m (fun r m' => r = none ∧ m' = sI m 315 (cp 105 (gI m 316) (gI m 315))) := by
  refine ⟨plmX12_keepsRow, nle rfl, ?_⟩
  have key : ∀ i, i ≤ 105 → Go mX12_keepsRow (fun r m' => r = none ∧ m' = sI m 315 (cp 105 (gI m 316) (gI m 315))) 2 [some (.ref 274), some (.int (nI i))] [] (sI m 315 (cp i (gI m 316) (gI m 315))) 0 0 := by
    refine loop_up 105 ?_ ?_
    · skip
      refine go_iload_n (q := 1) (i := 1) rfl rfl dX12_keepsRow_2 ?_
      refine go_bipush (v := nI 105) (by decide) dX12_keepsRow_3 ?_
      refine gn_ge (by omega) (by omega) (tgt := 26) dX12_keepsRow_5 (by decide) (fun h5 => ?_) (fun h5 => by exfalso; omega)
      refine go_vret rfl ⟨Nat.zero_le _, Nat.zero_le _⟩ dX12_keepsRow_26 ?_
      exact ⟨rfl, rfl⟩
    · intro i hi ih
      refine go_iload_n (q := 1) (i := 1) rfl rfl dX12_keepsRow_2 ?_
      refine go_bipush (v := nI 105) (by decide) dX12_keepsRow_3 ?_
      refine gn_ge (by omega) (by omega) (tgt := 26) dX12_keepsRow_5 (by decide) (fun h5 => by exfalso; omega) (fun h5 => ?_)
      refine go_aload_n (q := 0) (i := 0) rfl rfl dX12_keepsRow_8 ?_
      refine go_getR lf12_140 rfl hx.o hx.r58 dX12_keepsRow_9 ?_
      refine go_iload_n (q := 1) (i := 1) rfl rfl dX12_keepsRow_12 ?_
      refine go_aload_n (q := 0) (i := 0) rfl rfl dX12_keepsRow_13 ?_
      refine go_getR lf12_143 rfl hx.o hx.r59 dX12_keepsRow_14 ?_
      refine go_iload_n (q := 1) (i := 1) rfl rfl dX12_keepsRow_17 ?_
      refine go_iald (j := i) hx.i59 (by omega) (by first | decide | omega) rfl dX12_keepsRow_18 ?_
      refine go_iast (j := i) hx.i58 (by omega) (by first | decide | omega) rfl dX12_keepsRow_19 ?_
      rw [sI_sI, gI_s, gI_n (show 316 ≠ 315 by decide), cp_s]
      refine gn_inc (i := 1) (a := i) (q := 1) rfl dX12_keepsRow_20 (nle rfl) rfl ?_
      refine go_goto (tgt := 2) dX12_keepsRow_23 (by decide) ?_
      exact ih
  have k0 := key 0 (Nat.zero_le _)
  rw [cp_0, sI_self] at k0
  refine go_iconst (v := nI 0) (by decide) dX12_keepsRow_0 ?_
  refine go_istore_n (q := 1) (i := 1) rfl dX12_keepsRow_1 (nle rfl) (nle rfl) ?_
  exact k0
/-- a run's begin -/
def bgM (P : Pl) : Nat → Int32 := fun k => if k < 40 then (if ld P k then P.fo k else nI 0) else if k < 80 then (if ld P (k - 40) then P.wh (k - 40) else nI 0) else if k < 84 then P.st (k - 80) else nI 0
/-- the row, some land laid -/
def pD (P : Pl) (y x c : Nat) : Prop := c < 40 ∧ c % 8 < P.wd ∧ (c / 8 < y ∨ (c / 8 = y ∧ c % 8 < x))
set_option maxRecDepth 100000 in
set_option maxHeartbeats 8000000 in
/-- begins -/
theorem ex_begins {m : Me} {P : Pl} {lv : Nat} (hx : Wf12 m.1 (gR m)) (hm : MdC m P lv) (ok : PlOk P) : Ev mX12_begins [.ref 274] m (fun r m' => r = none ∧ Mo m m' ∧ (∀ k, k < 105 → gI m' 316 k = bgM P k) ∧ gI m' 274 60 = P.se ∧ gI m' 274 61 = -1 ∧ gI m' 274 57 = gI m 274 57) := by
  refine ⟨plmX12_begins, nle rfl, ?_⟩
  have hlv := hm.lv
  have hw8 := ok.1
  have hr5 := ok.2.1
  have hd4 := ok.2.2.1
  have k3 : ∀ i, i ≤ P.hd → ∀ (r : Nat → Int32) (x2 : Option Value), (∀ k, k < 105 → r k = if 80 + i ≤ k ∧ k < 84 then nI 0 else bgM P k) → Go mX12_begins (fun r m' => r = none ∧ Mo m m' ∧ (∀ k, k < 105 → gI m' 316 k = bgM P k) ∧ gI m' 274 60 = P.se ∧ gI m' 274 61 = -1 ∧ gI m' 274 57 = gI m 274 57) 128 [some (.ref 274), some (.int (nI i)), x2] [] (sI m 316 r) 0 0 := by
    refine loop_up P.hd ?_ ?_
    · intro r x2 hr
      refine go_iload_n (q := 1) (i := 1) rfl rfl dX12_begins_128 ?_
      refine go_aload_n (q := 0) (i := 0) rfl rfl dX12_begins_129 ?_
      refine go_getR lf12_58 rfl hx.o hx.r27 dX12_begins_130 ?_
      refine go_aload_n (q := 0) (i := 0) rfl rfl dX12_begins_133 ?_
      refine go_getI lf12_260 rfl hx.o dX12_begins_134 ?_
      rw [gI_n (show 274 ≠ 316 by decide), hm.li]
      refine go_iald (j := lv) hx.i27 (by omega) (by first | decide | omega) rfl dX12_begins_137 ?_
      rw [gI_n (show 288 ≠ 316 by decide), hm.hd]
      refine gn_ge (by omega) (by omega) (tgt := 169) dX12_begins_138 (by decide) (fun h138 => ?_) (fun h138 => by exfalso; omega)
      refine go_aload_n (q := 0) (i := 0) rfl rfl dX12_begins_169 ?_
      refine go_aload_n (q := 0) (i := 0) rfl rfl dX12_begins_170 ?_
      refine go_getR lf12_100 rfl hx.o hx.r41 dX12_begins_171 ?_
      refine go_aload_n (q := 0) (i := 0) rfl rfl dX12_begins_174 ?_
      refine go_getI lf12_260 rfl hx.o dX12_begins_175 ?_
      rw [gI_n (show 274 ≠ 316 by decide), hm.li]
      refine go_iald (j := lv) hx.i41 (by omega) (by first | decide | omega) rfl dX12_begins_178 ?_
      rw [gI_n (show 302 ≠ 316 by decide), hm.se]
      refine go_putI lf12_365 rfl (Or.inl rfl) hx.o dX12_begins_179 ?_
      refine go_aload_n (q := 0) (i := 0) rfl rfl dX12_begins_182 ?_
      refine go_iconst (v := -1) (by decide) dX12_begins_183 ?_
      refine go_putI lf12_368 rfl (Or.inl rfl) hx.o dX12_begins_184 ?_
      refine go_vret rfl ⟨Nat.zero_le _, Nat.zero_le _⟩ dX12_begins_187 ?_
      refine ⟨rfl, ⟨((Ch.I (by decide)).tr (Ch.I (by decide))).tr (Ch.I (by decide)), fun k h1 h2 h3 => ?_⟩, fun k hk => ?_, ?_, ?_, ?_⟩
      · rw [gI_s, gI_s]
        unfold upd
        rw [if_neg h3, if_neg h2, gI_n (by decide)]
      · rw [gI_n (by decide), gI_n (by decide), gI_s, hr k hk]
        by_cases q : 80 + P.hd ≤ k ∧ k < 84
        · rw [if_pos q]
          unfold bgM
          rw [if_neg (by omega), if_neg (by omega), if_pos q.2, (ok.2.2.2.2.2.2.1 (k - 80) (by omega) (by omega)).2]
        · rw [if_neg q]
      · rw [gI_s, gI_s]; rfl
      · rw [gI_s, gI_s]; rfl
      · rw [gI_s, gI_s]
        unfold upd
        rw [if_neg (by decide), if_neg (by decide), gI_n (by decide)]
    · intro i hi ih r x2 hr
      refine go_iload_n (q := 1) (i := 1) rfl rfl dX12_begins_128 ?_
      refine go_aload_n (q := 0) (i := 0) rfl rfl dX12_begins_129 ?_
      refine go_getR lf12_58 rfl hx.o hx.r27 dX12_begins_130 ?_
      refine go_aload_n (q := 0) (i := 0) rfl rfl dX12_begins_133 ?_
      refine go_getI lf12_260 rfl hx.o dX12_begins_134 ?_
      rw [gI_n (show 274 ≠ 316 by decide), hm.li]
      refine go_iald (j := lv) hx.i27 (by omega) (by first | decide | omega) rfl dX12_begins_137 ?_
      rw [gI_n (show 288 ≠ 316 by decide), hm.hd]
      refine gn_ge (by omega) (by omega) (tgt := 169) dX12_begins_138 (by decide) (fun h138 => by exfalso; omega) (fun h138 => ?_)
      refine go_aload_n (q := 0) (i := 0) rfl rfl dX12_begins_141 ?_
      refine go_getR lf12_143 rfl hx.o hx.r59 dX12_begins_142 ?_
      refine go_bipush (v := nI 80) (by decide) dX12_begins_145 ?_
      refine go_iload_n (q := 1) (i := 1) rfl rfl dX12_begins_147 ?_
      refine gn_add dX12_begins_148 ?_
      refine go_aload_n (q := 0) (i := 0) rfl rfl dX12_begins_149 ?_
      refine go_getR lf12_64 rfl hx.o hx.r29 dX12_begins_150 ?_
      refine go_iconst (v := nI 4) (by decide) dX12_begins_153 ?_
      refine go_aload_n (q := 0) (i := 0) rfl rfl dX12_begins_154 ?_
      refine go_getI lf12_260 rfl hx.o dX12_begins_155 ?_
      rw [gI_n (show 274 ≠ 316 by decide), hm.li]
      refine gn_mul dX12_begins_158 ?_
      refine go_iload_n (q := 1) (i := 1) rfl rfl dX12_begins_159 ?_
      refine gn_add dX12_begins_160 ?_
      refine go_iald (j := ((4 * lv) + i)) hx.i29 (by omega) (by first | decide | omega) rfl dX12_begins_161 ?_
      rw [gI_n (show 290 ≠ 316 by decide), (hm.ra i hi).2]
      refine go_iast (j := (80 + i)) hx.i59 (by omega) (by first | decide | omega) rfl dX12_begins_162 ?_
      rw [sI_sI, gI_s]
      refine gn_inc (i := 1) (a := i) (q := 1) rfl dX12_begins_163 (nle rfl) rfl ?_
      refine go_goto (tgt := 128) dX12_begins_166 (by decide) ?_
      refine ih _ _ (fun k hk => ?_)
      unfold upd
      by_cases e : k = 80 + i
      · subst e
        rw [if_pos rfl, if_neg (by omega)]
        unfold bgM
        rw [if_neg (by omega), if_neg (by omega), if_pos (by omega), show 80 + i - 80 = i by omega]
      · rw [if_neg e, hr k hk]
        by_cases q : 80 + (i + 1) ≤ k ∧ k < 84
        · rw [if_pos q, if_pos (by omega)]
        · rw [if_neg q, if_neg (by omega)]
  have hA : ∀ r : Nat → Int32, (∀ c, c < 40 → ((c % 8 < P.wd ∧ c / 8 < P.rw) → r c = P.fo c ∧ r (40 + c) = P.wh c) ∧ (¬ (c % 8 < P.wd ∧ c / 8 < P.rw) → r c = nI 0 ∧ r (40 + c) = nI 0)) → (∀ k, 80 ≤ k → k < 105 → r k = nI 0) → ∀ k, k < 105 → r k = if 80 + 0 ≤ k ∧ k < 84 then nI 0 else bgM P k := by
    intro r h1 h2 k hk
    by_cases q : 80 + 0 ≤ k ∧ k < 84
    · rw [if_pos q]; exact h2 k (by omega) hk
    · rw [if_neg q]
      unfold bgM
      by_cases c1 : k < 40
      · rw [if_pos c1]
        by_cases l : ld P k
        · rw [if_pos l]; exact ((h1 k c1).1 l).1
        · rw [if_neg l]; exact ((h1 k c1).2 l).1
      · rw [if_neg c1]
        by_cases c2 : k < 80
        · have e : 40 + (k - 40) = k := by omega
          rw [if_pos c2]
          by_cases l : ld P (k - 40)
          · rw [if_pos l]; have := ((h1 (k - 40) (by omega)).1 l).2; rw [e] at this; exact this
          · rw [if_neg l]; have := ((h1 (k - 40) (by omega)).2 l).2; rw [e] at this; exact this
        · rw [if_neg c2, if_neg (by omega)]; exact h2 k (by omega) hk
  have key : ∀ y, y ≤ P.rw → ∀ (r : Nat → Int32) (x2 : Option Value), (∀ c, c < 40 → ((c % 8 < P.wd ∧ c / 8 < y) → r c = P.fo c ∧ r (40 + c) = P.wh c) ∧ (¬ (c % 8 < P.wd ∧ c / 8 < y) → r c = nI 0 ∧ r (40 + c) = nI 0)) → (∀ k, 80 ≤ k → k < 105 → r k = nI 0) → Go mX12_begins (fun r m' => r = none ∧ Mo m m' ∧ (∀ k, k < 105 → gI m' 316 k = bgM P k) ∧ gI m' 274 60 = P.se ∧ gI m' 274 61 = -1 ∧ gI m' 274 57 = gI m 274 57) 23 [some (.ref 274), some (.int (nI y)), x2] [] (sI m 316 r) 0 0 := by
    refine loop_up P.rw ?_ ?_
    · intro r x2 h1 h2
      refine go_iload_n (q := 1) (i := 1) rfl rfl dX12_begins_23 ?_
      refine go_aload_n (q := 0) (i := 0) rfl rfl dX12_begins_24 ?_
      refine go_getR lf12_49 rfl hx.o hx.r24 dX12_begins_25 ?_
      refine go_aload_n (q := 0) (i := 0) rfl rfl dX12_begins_28 ?_
      refine go_getI lf12_260 rfl hx.o dX12_begins_29 ?_
      rw [gI_n (show 274 ≠ 316 by decide), hm.li]
      refine go_iald (j := lv) hx.i24 (by omega) (by first | decide | omega) rfl dX12_begins_32 ?_
      rw [gI_n (show 285 ≠ 316 by decide), hm.rw]
      refine gn_ge (by omega) (by omega) (tgt := 126) dX12_begins_33 (by decide) (fun h33 => ?_) (fun h33 => by exfalso; omega)
      refine go_iconst (v := nI 0) (by decide) dX12_begins_126 ?_
      refine go_istore_n (q := 1) (i := 1) rfl dX12_begins_127 (nle rfl) (nle rfl) ?_
      exact k3 0 (Nat.zero_le _) r _ (hA r h1 h2)
    · intro y hi ih r x2 h1 h2
      have key2 : ∀ x, x ≤ P.wd → ∀ (r : Nat → Int32), (∀ c, c < 40 → ((c % 8 < P.wd ∧ (c / 8 < y ∨ (c / 8 = y ∧ c % 8 < x))) → r c = P.fo c ∧ r (40 + c) = P.wh c) ∧ (¬ (c % 8 < P.wd ∧ (c / 8 < y ∨ (c / 8 = y ∧ c % 8 < x))) → r c = nI 0 ∧ r (40 + c) = nI 0)) → (∀ k, 80 ≤ k → k < 105 → r k = nI 0) → Go mX12_begins (fun r m' => r = none ∧ Mo m m' ∧ (∀ k, k < 105 → gI m' 316 k = bgM P k) ∧ gI m' 274 60 = P.se ∧ gI m' 274 61 = -1 ∧ gI m' 274 57 = gI m 274 57) 38 [some (.ref 274), some (.int (nI y)), some (.int (nI x))] [] (sI m 316 r) 0 0 := by
        refine loop_up P.wd ?_ ?_
        · intro r h1 h2
          refine go_iload_n (q := 2) (i := 2) rfl rfl dX12_begins_38 ?_
          refine go_aload_n (q := 0) (i := 0) rfl rfl dX12_begins_39 ?_
          refine go_getR lf12_46 rfl hx.o hx.r23 dX12_begins_40 ?_
          refine go_aload_n (q := 0) (i := 0) rfl rfl dX12_begins_43 ?_
          refine go_getI lf12_260 rfl hx.o dX12_begins_44 ?_
          rw [gI_n (show 274 ≠ 316 by decide), hm.li]
          refine go_iald (j := lv) hx.i23 (by omega) (by first | decide | omega) rfl dX12_begins_47 ?_
          rw [gI_n (show 284 ≠ 316 by decide), hm.wd]
          refine gn_ge (by omega) (by omega) (tgt := 120) dX12_begins_48 (by decide) (fun h48 => ?_) (fun h48 => by exfalso; omega)
          refine gn_inc (i := 1) (a := y) (q := 1) rfl dX12_begins_120 (nle rfl) rfl ?_
          refine go_goto (tgt := 23) dX12_begins_123 (by decide) ?_
          exact ih r _ (fun c hc => ⟨fun q => (h1 c hc).1 (by omega), fun q => (h1 c hc).2 (by omega)⟩) h2
        · intro x hj ih2 r h1 h2
          have hcl : ld P (8 * y + x) := ⟨by omega, by omega⟩
          refine go_iload_n (q := 2) (i := 2) rfl rfl dX12_begins_38 ?_
          refine go_aload_n (q := 0) (i := 0) rfl rfl dX12_begins_39 ?_
          refine go_getR lf12_46 rfl hx.o hx.r23 dX12_begins_40 ?_
          refine go_aload_n (q := 0) (i := 0) rfl rfl dX12_begins_43 ?_
          refine go_getI lf12_260 rfl hx.o dX12_begins_44 ?_
          rw [gI_n (show 274 ≠ 316 by decide), hm.li]
          refine go_iald (j := lv) hx.i23 (by omega) (by first | decide | omega) rfl dX12_begins_47 ?_
          rw [gI_n (show 284 ≠ 316 by decide), hm.wd]
          refine gn_ge (by omega) (by omega) (tgt := 120) dX12_begins_48 (by decide) (fun h48 => by exfalso; omega) (fun h48 => ?_)
          refine go_aload_n (q := 0) (i := 0) rfl rfl dX12_begins_51 ?_
          refine go_getR lf12_143 rfl hx.o hx.r59 dX12_begins_52 ?_
          refine go_bipush (v := nI 8) (by decide) dX12_begins_55 ?_
          refine go_iload_n (q := 1) (i := 1) rfl rfl dX12_begins_57 ?_
          refine gn_mul dX12_begins_58 ?_
          refine go_iload_n (q := 2) (i := 2) rfl rfl dX12_begins_59 ?_
          refine gn_add dX12_begins_60 ?_
          refine go_aload_n (q := 0) (i := 0) rfl rfl dX12_begins_61 ?_
          refine go_getR lf12_55 rfl hx.o hx.r26 dX12_begins_62 ?_
          refine go_bipush (v := nI 40) (by decide) dX12_begins_65 ?_
          refine go_aload_n (q := 0) (i := 0) rfl rfl dX12_begins_67 ?_
          refine go_getI lf12_260 rfl hx.o dX12_begins_68 ?_
          rw [gI_n (show 274 ≠ 316 by decide), hm.li]
          refine gn_mul dX12_begins_71 ?_
          refine go_bipush (v := nI 8) (by decide) dX12_begins_72 ?_
          refine go_iload_n (q := 1) (i := 1) rfl rfl dX12_begins_74 ?_
          refine gn_mul dX12_begins_75 ?_
          refine gn_add dX12_begins_76 ?_
          refine go_iload_n (q := 2) (i := 2) rfl rfl dX12_begins_77 ?_
          refine gn_add dX12_begins_78 ?_
          refine go_iald (j := (((40 * lv) + (8 * y)) + x)) hx.i26 (by omega) (by first | decide | omega) rfl dX12_begins_79 ?_
          rw [show 40 * lv + 8 * y + x = 40 * lv + (8 * y + x) by omega, gI_n (show 287 ≠ 316 by decide), (hm.ce (8 * y + x) (by omega) hcl).2]
          refine go_iast (j := ((8 * y) + x)) hx.i59 (by omega) (by first | decide | omega) rfl dX12_begins_80 ?_
          rw [sI_sI, gI_s]
          refine go_aload_n (q := 0) (i := 0) rfl rfl dX12_begins_81 ?_
          refine go_getR lf12_143 rfl hx.o hx.r59 dX12_begins_82 ?_
          refine go_bipush (v := nI 40) (by decide) dX12_begins_85 ?_
          refine go_bipush (v := nI 8) (by decide) dX12_begins_87 ?_
          refine go_iload_n (q := 1) (i := 1) rfl rfl dX12_begins_89 ?_
          refine gn_mul dX12_begins_90 ?_
          refine gn_add dX12_begins_91 ?_
          refine go_iload_n (q := 2) (i := 2) rfl rfl dX12_begins_92 ?_
          refine gn_add dX12_begins_93 ?_
          refine go_aload_n (q := 0) (i := 0) rfl rfl dX12_begins_94 ?_
          refine go_getR lf12_52 rfl hx.o hx.r25 dX12_begins_95 ?_
          refine go_bipush (v := nI 40) (by decide) dX12_begins_98 ?_
          refine go_aload_n (q := 0) (i := 0) rfl rfl dX12_begins_100 ?_
          refine go_getI lf12_260 rfl hx.o dX12_begins_101 ?_
          rw [gI_n (show 274 ≠ 316 by decide), hm.li]
          refine gn_mul dX12_begins_104 ?_
          refine go_bipush (v := nI 8) (by decide) dX12_begins_105 ?_
          refine go_iload_n (q := 1) (i := 1) rfl rfl dX12_begins_107 ?_
          refine gn_mul dX12_begins_108 ?_
          refine gn_add dX12_begins_109 ?_
          refine go_iload_n (q := 2) (i := 2) rfl rfl dX12_begins_110 ?_
          refine gn_add dX12_begins_111 ?_
          refine go_iald (j := (((40 * lv) + (8 * y)) + x)) hx.i25 (by omega) (by first | decide | omega) rfl dX12_begins_112 ?_
          rw [show 40 * lv + 8 * y + x = 40 * lv + (8 * y + x) by omega, gI_n (show 286 ≠ 316 by decide), (hm.ce (8 * y + x) (by omega) hcl).1]
          refine go_iast (j := ((40 + (8 * y)) + x)) hx.i59 (by omega) (by first | decide | omega) rfl dX12_begins_113 ?_
          rw [sI_sI, gI_s]
          refine gn_inc (i := 2) (a := x) (q := 1) rfl dX12_begins_114 (nle rfl) rfl ?_
          refine go_goto (tgt := 38) dX12_begins_117 (by decide) ?_
          refine ih2 _ (fun c hc => ⟨fun q => ⟨?_, ?_⟩, fun q => ⟨?_, ?_⟩⟩) (fun k hk hk2 => ?_)
          · unfold upd
            rw [if_neg (by omega)]
            by_cases e : c = 8 * y + x
            · rw [if_pos e, e]
            · rw [if_neg e]; exact ((h1 c hc).1 (by omega)).1
          · unfold upd
            by_cases e : c = 8 * y + x
            · rw [if_pos (by omega), e]
            · rw [if_neg (by omega), if_neg (by omega)]; exact ((h1 c hc).1 (by omega)).2
          · unfold upd
            rw [if_neg (by omega), if_neg (by omega)]; exact ((h1 c hc).2 (by omega)).1
          · unfold upd
            rw [if_neg (by omega), if_neg (by omega)]; exact ((h1 c hc).2 (by omega)).2
          · unfold upd
            rw [if_neg (by omega), if_neg (by omega)]; exact h2 k hk hk2
      refine go_iload_n (q := 1) (i := 1) rfl rfl dX12_begins_23 ?_
      refine go_aload_n (q := 0) (i := 0) rfl rfl dX12_begins_24 ?_
      refine go_getR lf12_49 rfl hx.o hx.r24 dX12_begins_25 ?_
      refine go_aload_n (q := 0) (i := 0) rfl rfl dX12_begins_28 ?_
      refine go_getI lf12_260 rfl hx.o dX12_begins_29 ?_
      rw [gI_n (show 274 ≠ 316 by decide), hm.li]
      refine go_iald (j := lv) hx.i24 (by omega) (by first | decide | omega) rfl dX12_begins_32 ?_
      rw [gI_n (show 285 ≠ 316 by decide), hm.rw]
      refine gn_ge (by omega) (by omega) (tgt := 126) dX12_begins_33 (by decide) (fun h33 => by exfalso; omega) (fun h33 => ?_)
      refine go_iconst (v := nI 0) (by decide) dX12_begins_36 ?_
      refine go_istore_n (q := 2) (i := 2) rfl dX12_begins_37 (nle rfl) (nle rfl) ?_
      exact key2 0 (Nat.zero_le _) r (fun c hc => ⟨fun q => (h1 c hc).1 (by omega), fun q => (h1 c hc).2 (by omega)⟩) h2
  have k1 : ∀ i, i ≤ 105 → Go mX12_begins (fun r m' => r = none ∧ Mo m m' ∧ (∀ k, k < 105 → gI m' 316 k = bgM P k) ∧ gI m' 274 60 = P.se ∧ gI m' 274 61 = -1 ∧ gI m' 274 57 = gI m 274 57) 2 [some (.ref 274), some (.int (nI i)), none] [] (sI m 316 (cp i (fun _ => nI 0) (gI m 316))) 0 0 := by
    refine loop_up 105 ?_ ?_
    · skip
      refine go_iload_n (q := 1) (i := 1) rfl rfl dX12_begins_2 ?_
      refine go_bipush (v := nI 105) (by decide) dX12_begins_3 ?_
      refine gn_ge (by omega) (by omega) (tgt := 21) dX12_begins_5 (by decide) (fun h5 => ?_) (fun h5 => by exfalso; omega)
      refine go_iconst (v := nI 0) (by decide) dX12_begins_21 ?_
      refine go_istore_n (q := 1) (i := 1) rfl dX12_begins_22 (nle rfl) (nle rfl) ?_
      exact key 0 (Nat.zero_le _) _ _ (fun c hc => ⟨fun q => absurd q.2 (by omega), fun _ => ⟨cp_in (by omega), cp_in (by omega)⟩⟩) (fun k _ hk => cp_in hk)
    · intro i hi ih
      refine go_iload_n (q := 1) (i := 1) rfl rfl dX12_begins_2 ?_
      refine go_bipush (v := nI 105) (by decide) dX12_begins_3 ?_
      refine gn_ge (by omega) (by omega) (tgt := 21) dX12_begins_5 (by decide) (fun h5 => by exfalso; omega) (fun h5 => ?_)
      refine go_aload_n (q := 0) (i := 0) rfl rfl dX12_begins_8 ?_
      refine go_getR lf12_143 rfl hx.o hx.r59 dX12_begins_9 ?_
      refine go_iload_n (q := 1) (i := 1) rfl rfl dX12_begins_12 ?_
      refine go_iconst (v := nI 0) (by decide) dX12_begins_13 ?_
      refine go_iast (j := i) hx.i59 (by omega) (by first | decide | omega) rfl dX12_begins_14 ?_
      rw [sI_sI, gI_s, show upd (cp i (fun _ => nI 0) (gI m 316)) i (nI 0) = cp (i + 1) (fun _ => nI 0) (gI m 316) from cp_s (A := fun _ => nI 0)]
      refine gn_inc (i := 1) (a := i) (q := 1) rfl dX12_begins_15 (nle rfl) rfl ?_
      refine go_goto (tgt := 2) dX12_begins_18 (by decide) ?_
      exact ih
  have k0 := k1 0 (Nat.zero_le _)
  rw [cp_0, sI_self] at k0
  refine go_iconst (v := nI 0) (by decide) dX12_begins_0 ?_
  refine go_istore_n (q := 1) (i := 1) rfl dX12_begins_1 (nle rfl) (nle rfl) ?_
  exact k0
