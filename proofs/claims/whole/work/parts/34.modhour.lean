/-- the fog of a step, cell behind cell -/
def stX (T N : Nat → Int32) (y : Nat) (ft : Nat → Int32) : Nat → Nat → Int32
  | 0 => ft
  | x + 1 => if N (8 * y + x) < 0 then upd (stX T N y ft x) (8 * y + x) (stX T N y ft x (8 * y + x) - T (8 * y + x))
    else upd (upd (stX T N y ft x) (8 * y + x) (stX T N y ft x (8 * y + x) - T (8 * y + x))) (N (8 * y + x)).toNatClampNeg (upd (stX T N y ft x) (8 * y + x) (stX T N y ft x (8 * y + x) - T (8 * y + x)) (N (8 * y + x)).toNatClampNeg + T (8 * y + x))
def stY (T N : Nat → Int32) (wd : Nat) (ft : Nat → Int32) : Nat → Nat → Int32
  | 0 => ft
  | y + 1 => stX T N y (stY T N wd ft y) wd
theorem upd_lt2 {f f' : Nat → Int32} {k : Nat} {x x' : Int32} {n : Nat} (h : ∀ j, j < n → f j = f' j) (hx : x = x') : ∀ j, j < n → upd f k x j = upd f' k x' j := upd_lt h hx
set_option maxRecDepth 100000 in
set_option maxHeartbeats 8000000 in
/-- steps -/
theorem ex_steps {m : Me} {P : Pl} {lv : Nat} (hx : Wf12 m.1 (gR m)) (hm : MdC m P lv) {b : Int32} (ok : PlOk P)  : Ev mX12_steps [.ref 274, .int b] m (fun r m' => r = none ∧ Mh m m' ∧ (∀ k, k < 40 → gI m' 316 k = stY (tM P (eW (gI m 316 104) b) (gI m 316) 1) (nxS (nI P.wd) (nI P.rw) b) P.wd (gI m 316) P.rw k) ∧ (∀ k, 40 ≤ k → gI m' 316 k = gI m 316 k)) := by
  refine ⟨plmX12_steps, nle rfl, ?_⟩
  have hlv := hm.lv
  have hw8 := ok.1
  have hr5 := ok.2.1
  have hx0 := hx
  have hm0 := hm
  generalize hT : (tM P (eW (gI m 316 104) b) (gI m 316) 1) = T
  generalize hN : (nxS (nI P.wd) (nI P.rw) b) = N
  -- the end: the row takes what was reckoned
  have k3 : ∀ i, i ≤ 40 → ∀ (mi : Me) (x3 x4 x5 x6 : Option Value), Mh m mi → (∀ k, k < 40 → gI mi 317 k = stY T N P.wd (gI m 316) P.rw k) → (∀ k, k < i → gI mi 316 k = stY T N P.wd (gI m 316) P.rw k) → (∀ k, 40 ≤ k → gI mi 316 k = gI m 316 k) → Go mX12_steps (fun r m' => r = none ∧ Mh m m' ∧ (∀ k, k < 40 → gI m' 316 k = stY T N P.wd (gI m 316) P.rw k) ∧ (∀ k, 40 ≤ k → gI m' 316 k = gI m 316 k)) 171 [some (.ref 274), some (.int b), some (.int (nI i)), x3, x4, x5, x6] [] mi 0 0 := by
    refine loop_up 40 ?_ ?_
    · intro mi x3 x4 x5 x6 c1 h1 h2 h3
      have hx := c1.1.wf hx0
      have hm := c1.1.md hm0
      refine go_iload_n (q := 2) (i := 2) rfl rfl dX12_steps_171 ?_
      refine go_bipush (v := nI 40) (by decide) dX12_steps_172 ?_
      refine gn_ge (by omega) (by omega) (tgt := 195) dX12_steps_174 (by decide) (fun h174 => ?_) (fun h174 => by exfalso; omega)
      refine go_vret rfl ⟨Nat.zero_le _, Nat.zero_le _⟩ dX12_steps_195 ?_
      exact ⟨rfl, c1, h2, h3⟩
    · intro i hi ih mi x3 x4 x5 x6 c1 h1 h2 h3
      have hx := c1.1.wf hx0
      have hm := c1.1.md hm0
      refine go_iload_n (q := 2) (i := 2) rfl rfl dX12_steps_171 ?_
      refine go_bipush (v := nI 40) (by decide) dX12_steps_172 ?_
      refine gn_ge (by omega) (by omega) (tgt := 195) dX12_steps_174 (by decide) (fun h174 => by exfalso; omega) (fun h174 => ?_)
      refine go_aload_n (q := 0) (i := 0) rfl rfl dX12_steps_177 ?_
      refine go_getR lf12_143 rfl hx.o hx.r59 dX12_steps_178 ?_
      refine go_iload_n (q := 2) (i := 2) rfl rfl dX12_steps_181 ?_
      refine go_aload_n (q := 0) (i := 0) rfl rfl dX12_steps_182 ?_
      refine go_getR lf12_146 rfl hx.o hx.r62 dX12_steps_183 ?_
      refine go_iload_n (q := 2) (i := 2) rfl rfl dX12_steps_186 ?_
      refine go_iald (j := i) hx.i62 (by omega) (by first | decide | omega) rfl dX12_steps_187 ?_
      refine go_iast (j := i) hx.i59 (by omega) (by first | decide | omega) rfl dX12_steps_188 ?_
      refine gn_inc (i := 2) (a := i) (q := 1) rfl dX12_steps_189 (nle rfl) rfl ?_
      refine go_goto (tgt := 171) dX12_steps_192 (by decide) ?_
      refine ih _ _ _ _ _ (c1.tr (Mh.of (Ch.I (Or.inr (Or.inr (Or.inl rfl)))))) (fun k hk => by rw [gI_n (by decide)]; exact h1 k hk) (fun k hk => ?_) (fun k hk => ?_)
      · rw [gI_s]
        unfold upd
        by_cases e : k = i
        · subst e; rw [if_pos rfl]; exact h1 k hi
        · rw [if_neg e]; exact h2 k (by omega)
      · rw [gI_s]
        unfold upd
        rw [if_neg (by omega)]; exact h3 k hk
  -- the cells
  have key : ∀ y, y ≤ P.rw → ∀ (mi : Me) (x3 x4 x5 x6 : Option Value), (Mh m mi ∧ gI mi 316 = gI m 316 ∧ ∀ k, k < 40 → gI mi 317 k = stY T N P.wd (gI m 316) y k) → Go mX12_steps (fun r m' => r = none ∧ Mh m m' ∧ (∀ k, k < 40 → gI m' 316 k = stY T N P.wd (gI m 316) P.rw k) ∧ (∀ k, 40 ≤ k → gI m' 316 k = gI m 316 k)) 28 [some (.ref 274), some (.int b), some (.int (nI y)), x3, x4, x5, x6] [] mi 0 0 := by
    refine loop_up P.rw ?_ ?_
    · intro mi x3 x4 x5 x6 hI
      obtain ⟨c1, e16, hF⟩ := hI
      have hx := c1.1.wf hx0
      have hm := c1.1.md hm0
      refine go_iload_n (q := 2) (i := 2) rfl rfl dX12_steps_28 ?_
      refine go_aload_n (q := 0) (i := 0) rfl rfl dX12_steps_29 ?_
      refine go_getR lf12_49 rfl hx.o hx.r24 dX12_steps_30 ?_
      refine go_aload_n (q := 0) (i := 0) rfl rfl dX12_steps_33 ?_
      refine go_getI lf12_260 rfl hx.o dX12_steps_34 ?_
      rw [hm.li]
      refine go_iald (j := lv) hx.i24 (by omega) (by first | decide | omega) rfl dX12_steps_37 ?_
      rw [hm.rw]
      refine gn_ge (by omega) (by omega) (tgt := 169) dX12_steps_38 (by decide) (fun h38 => ?_) (fun h38 => by exfalso; omega)
      refine go_iconst (v := nI 0) (by decide) dX12_steps_169 ?_
      refine go_istore_n (q := 2) (i := 2) rfl dX12_steps_170 (nle rfl) (nle rfl) ?_
      exact k3 0 (Nat.zero_le _) mi _ _ _ _ c1 hF (fun k hk => absurd hk (Nat.not_lt_zero k)) (fun k _ => by rw [e16])
    · intro y hi ih mi x3 x4 x5 x6 hI
      obtain ⟨c1, e16, hF⟩ := hI
      have hx := c1.1.wf hx0
      have hm := c1.1.md hm0
      have key2 : ∀ x, x ≤ P.wd → ∀ (mi : Me) (x4 x5 x6 : Option Value), (Mh m mi ∧ gI mi 316 = gI m 316 ∧ ∀ k, k < 40 → gI mi 317 k = stX T N y (stY T N P.wd (gI m 316) y) x k) → Go mX12_steps (fun r m' => r = none ∧ Mh m m' ∧ (∀ k, k < 40 → gI m' 316 k = stY T N P.wd (gI m 316) P.rw k) ∧ (∀ k, 40 ≤ k → gI m' 316 k = gI m 316 k)) 43 [some (.ref 274), some (.int b), some (.int (nI y)), some (.int (nI x)), x4, x5, x6] [] mi 0 0 := by
        refine loop_up P.wd ?_ ?_
        · intro mi x4 x5 x6 hI
          obtain ⟨c1, e16, hF⟩ := hI
          have hx := c1.1.wf hx0
          have hm := c1.1.md hm0
          refine go_iload_n (q := 3) (i := 3) rfl rfl dX12_steps_43 ?_
          refine go_aload_n (q := 0) (i := 0) rfl rfl dX12_steps_44 ?_
          refine go_getR lf12_46 rfl hx.o hx.r23 dX12_steps_45 ?_
          refine go_aload_n (q := 0) (i := 0) rfl rfl dX12_steps_48 ?_
          refine go_getI lf12_260 rfl hx.o dX12_steps_49 ?_
          rw [hm.li]
          refine go_iald (j := lv) hx.i23 (by omega) (by first | decide | omega) rfl dX12_steps_52 ?_
          rw [hm.wd]
          refine gn_ge (by omega) (by omega) (tgt := 163) dX12_steps_53 (by decide) (fun h53 => ?_) (fun h53 => by exfalso; omega)
          refine gn_inc (i := 2) (a := y) (q := 1) rfl dX12_steps_163 (nle rfl) rfl ?_
          refine go_goto (tgt := 28) dX12_steps_166 (by decide) ?_
          exact ih mi _ _ _ _ ⟨c1, e16, hF⟩
        · intro x hj ih2 mi x4 x5 x6 hI
          obtain ⟨c1, e16, hF⟩ := hI
          have hx := c1.1.wf hx0
          have hm := c1.1.md hm0
          refine go_iload_n (q := 3) (i := 3) rfl rfl dX12_steps_43 ?_
          refine go_aload_n (q := 0) (i := 0) rfl rfl dX12_steps_44 ?_
          refine go_getR lf12_46 rfl hx.o hx.r23 dX12_steps_45 ?_
          refine go_aload_n (q := 0) (i := 0) rfl rfl dX12_steps_48 ?_
          refine go_getI lf12_260 rfl hx.o dX12_steps_49 ?_
          rw [hm.li]
          refine go_iald (j := lv) hx.i23 (by omega) (by first | decide | omega) rfl dX12_steps_52 ?_
          rw [hm.wd]
          refine gn_ge (by omega) (by omega) (tgt := 163) dX12_steps_53 (by decide) (fun h53 => by exfalso; omega) (fun h53 => ?_)
          refine go_aload_n (q := 0) (i := 0) rfl rfl dX12_steps_56 ?_
          refine go_iconst (v := nI 1) (by decide) dX12_steps_57 ?_
          refine go_iload_n (q := 3) (i := 3) rfl rfl dX12_steps_58 ?_
          refine go_iload_n (q := 2) (i := 2) rfl rfl dX12_steps_59 ?_
          refine go_iload_n (q := 1) (i := 1) rfl rfl dX12_steps_60 ?_
          refine go_callV okmX12_cellTells lmX12_390 ⟨nle rfl, nle rfl⟩ hx.o ⟨by decide, rfl⟩ (ex_cellTells hx hm ok (Or.inl rfl) (by omega) (by omega)) npmX12_cellTells rfl (nle rfl) ⟨nle rfl, nle rfl⟩ dX12_steps_61 ?_
          rintro _ m1 ⟨rfl, cc, e1, e17⟩
          rw [e16, hT]
          have c2 := c1.tr cc
          have e2 : gI m1 316 = gI m 316 := e1.trans e16
          have hx := c2.1.wf hx0
          have hm := c2.1.md hm0
          have hF2 : ∀ k, k < 40 → gI m1 317 k = stX T N y (stY T N P.wd (gI m 316) y) x k := fun k hk => by rw [e17]; exact hF k hk
          have hNc : N (8 * y + x) = caS (nI P.wd) (nI P.rw) (nI x + stA b) (nI y + stD b) := by
            rw [← hN]
            unfold nxS
            rw [show (8 * y + x) % 8 = x by omega, show (8 * y + x) / 8 = y by omega]
          have j112 : Go mX12_steps (fun r m' => r = none ∧ Mh m m' ∧ (∀ k, k < 40 → gI m' 316 k = stY T N P.wd (gI m 316) P.rw k) ∧ (∀ k, 40 ≤ k → gI m' 316 k = gI m 316 k)) 112 [some (.ref 274), some (.int b), some (.int (nI y)), some (.int (nI x)), some (.int (T (8 * y + x))), some (.int (nI x + stA b)), some (.int (nI y + stD b))] [] m1 0 0 := by
            refine go_aload_n (q := 0) (i := 0) rfl rfl dX12_steps_112 ?_
            refine go_getR lf12_146 rfl hx.o hx.r62 dX12_steps_113 ?_
            refine go_bipush (v := nI 8) (by decide) dX12_steps_116 ?_
            refine go_iload_n (q := 2) (i := 2) rfl rfl dX12_steps_118 ?_
            refine gn_mul dX12_steps_119 ?_
            refine go_iload_n (q := 3) (i := 3) rfl rfl dX12_steps_120 ?_
            refine gn_add dX12_steps_121 ?_
            refine go_dup2 rfl rfl dX12_steps_122 ?_
            refine go_iald (j := ((8 * y) + x)) hx.i62 (by omega) (by first | decide | omega) rfl dX12_steps_123 ?_
            refine go_iload (i := 4) rfl dX12_steps_124 ?_
            refine go_isub dX12_steps_126 ?_
            refine go_iast (j := ((8 * y) + x)) hx.i62 (by omega) (by first | decide | omega) rfl dX12_steps_127 ?_
            generalize hmS : sI m1 317 _ = mS
            have hcS : Mh m1 mS := Mh.of (by rw [← hmS]; exact Ch.I (Or.inr (Or.inr (Or.inr rfl))))
            have hx := hcS.1.wf hx
            have hm := hcS.1.md hm
            refine go_aload_n (q := 0) (i := 0) rfl rfl dX12_steps_128 ?_
            refine go_iload (i := 5) rfl dX12_steps_129 ?_
            refine go_iload (i := 6) rfl dX12_steps_131 ?_
            refine go_callV okmX12_isCell lmX12_394 ⟨nle rfl, nle rfl⟩ hx.o ⟨by decide, rfl⟩ (ex_isCell hx hm) npmX12_isCell rfl (nle rfl) ⟨nle rfl, nle rfl⟩ dX12_steps_133 ?_
            rintro _ mz ⟨rfl, hz⟩
            subst mz
            refine go_c1 ?_
            rcases ic_ca ok (nI x + stA b) (nI y + stD b) with ⟨hic, hca⟩ | ⟨hic, x2, y2, hx2, hy2, ex2, ey2, hca⟩
            · rw [hic]
              have hneg : N (8 * y + x) < 0 := by rw [hNc, hca]; decide
              refine gz_eq (by omega) (tgt := 157) dX12_steps_136 (by decide) (fun h136 => ?_) (fun h136 => by exfalso; omega)
              rw [← hmS]
              refine gn_inc (i := 3) (a := x) (q := 1) rfl dX12_steps_157 (nle rfl) rfl ?_
              refine go_goto (tgt := 43) dX12_steps_160 (by decide) ?_
              refine ih2 _ _ _ _ ⟨c2.tr (Mh.of (Ch.I (Or.inr (Or.inr (Or.inr rfl))))), by rw [gI_n (by decide)]; exact e2, fun k hk => ?_⟩
              rw [gI_s, show stX T N y (stY T N P.wd (gI m 316) y) ((x + 1)) = _ from if_pos hneg]
              exact upd_lt2 hF2 (by rw [hF2 _ (by omega)]) k hk
            · rw [hic]
              have hNj : N (8 * y + x) = nI (8 * y2 + x2) := by rw [hNc, hca]
              have hneg : ¬ N (8 * y + x) < 0 := by rw [hNj]; exact nI_pos (by omega)
              have hj40 : 8 * y2 + x2 < 40 := by omega
              have hix : nI 8 * (nI y + stD b) + (nI x + stA b) = nI (8 * y2 + x2) := by rw [ex2, ey2, pk_mul, nI_add]
              refine gz_eq (by omega) (tgt := 157) dX12_steps_136 (by decide) (fun h136 => by exfalso; omega) (fun h136 => ?_)
              refine go_aload_n (q := 0) (i := 0) rfl rfl dX12_steps_139 ?_
              refine go_getR lf12_146 rfl hx.o hx.r62 dX12_steps_140 ?_
              refine go_bipush (v := nI 8) (by decide) dX12_steps_143 ?_
              refine go_iload (i := 6) rfl dX12_steps_145 ?_
              refine go_imul dX12_steps_147 ?_
              refine go_iload (i := 5) rfl dX12_steps_148 ?_
              refine go_iadd dX12_steps_150 ?_
              refine go_dup2 rfl rfl dX12_steps_151 ?_
              refine go_iald (j := 8 * y2 + x2) hx.i62 (by omega) (by first | decide | omega) hix dX12_steps_152 ?_
              refine go_iload (i := 4) rfl dX12_steps_153 ?_
              refine go_iadd dX12_steps_155 ?_
              refine go_iast (j := 8 * y2 + x2) hx.i62 (by omega) (by first | decide | omega) hix dX12_steps_156 ?_
              rw [← hmS, sI_sI, gI_s]
              refine gn_inc (i := 3) (a := x) (q := 1) rfl dX12_steps_157 (nle rfl) rfl ?_
              refine go_goto (tgt := 43) dX12_steps_160 (by decide) ?_
              refine ih2 _ _ _ _ ⟨c2.tr (Mh.of (Ch.I (Or.inr (Or.inr (Or.inr rfl))))), by rw [gI_n (by decide)]; exact e2, fun k hk => ?_⟩
              rw [gI_s, show stX T N y (stY T N P.wd (gI m 316) y) ((x + 1)) = _ from if_neg hneg, hNj, nI_clamp (by omega)]
              have h0 := upd_lt2 (k := 8 * y + x) (n := 40) hF2 (show gI m1 317 (8 * y + x) - T (8 * y + x) = stX T N y (stY T N P.wd (gI m 316) y) x (8 * y + x) - T (8 * y + x) by rw [hF2 _ (by omega)])
              exact upd_lt2 h0 (by rw [h0 _ hj40]) k hk
          refine go_c1 ?_
          refine go_istore (i := 4) dX12_steps_64 (nle rfl) (nle rfl) ?_
          refine go_iload_n (q := 3) (i := 3) rfl rfl dX12_steps_66 ?_
          refine go_iload_n (q := 1) (i := 1) rfl rfl dX12_steps_67 ?_
          refine go_iconst (v := nI 1) (by decide) dX12_steps_68 ?_
          refine go_icmp_ne (tgt := 76) dX12_steps_69 (by decide) (fun h69 => ?_) (fun h69 => ?_)
          · skip
            refine go_iload_n (q := 1) (i := 1) rfl rfl dX12_steps_76 ?_
            refine go_iconst (v := nI 3) (by decide) dX12_steps_77 ?_
            refine go_icmp_ne (tgt := 85) dX12_steps_78 (by decide) (fun h78 => ?_) (fun h78 => ?_)
            · skip
              refine go_iconst (v := nI 0) (by decide) dX12_steps_85 ?_
              refine go_iadd dX12_steps_86 ?_
              refine go_istore (i := 5) dX12_steps_87 (nle rfl) (nle rfl) ?_
              refine go_iload_n (q := 2) (i := 2) rfl rfl dX12_steps_89 ?_
              refine go_iload_n (q := 1) (i := 1) rfl rfl dX12_steps_90 ?_
              refine go_iconst (v := nI 2) (by decide) dX12_steps_91 ?_
              refine go_icmp_ne (tgt := 99) dX12_steps_92 (by decide) (fun h92 => ?_) (fun h92 => ?_)
              · skip
                refine go_iload_n (q := 1) (i := 1) rfl rfl dX12_steps_99 ?_
                refine go_iconst (v := nI 4) (by decide) dX12_steps_100 ?_
                refine go_icmp_ne (tgt := 108) dX12_steps_101 (by decide) (fun h101 => ?_) (fun h101 => ?_)
                · skip
                  refine go_iconst (v := nI 0) (by decide) dX12_steps_108 ?_
                  refine go_iadd dX12_steps_109 ?_
                  refine go_istore (i := 6) dX12_steps_110 (nle rfl) (nle rfl) ?_
                  first
                    | rw [show stA b = nI 1 from if_pos h69] at j112
                    | rw [show stA b = -1 from (if_neg h69).trans (if_pos h78)] at j112
                    | rw [show stA b = nI 0 from (if_neg h69).trans (if_neg h78)] at j112
                  first
                    | rw [show stD b = nI 1 from if_pos h92] at j112
                    | rw [show stD b = -1 from (if_neg h92).trans (if_pos h101)] at j112
                    | rw [show stD b = nI 0 from (if_neg h92).trans (if_neg h101)] at j112
                  exact j112
                · skip
                  refine go_iconst (v := -1) (by decide) dX12_steps_104 ?_
                  refine go_goto (tgt := 109) dX12_steps_105 (by decide) ?_
                  refine go_iadd dX12_steps_109 ?_
                  refine go_istore (i := 6) dX12_steps_110 (nle rfl) (nle rfl) ?_
                  first
                    | rw [show stA b = nI 1 from if_pos h69] at j112
                    | rw [show stA b = -1 from (if_neg h69).trans (if_pos h78)] at j112
                    | rw [show stA b = nI 0 from (if_neg h69).trans (if_neg h78)] at j112
                  first
                    | rw [show stD b = nI 1 from if_pos h92] at j112
                    | rw [show stD b = -1 from (if_neg h92).trans (if_pos h101)] at j112
                    | rw [show stD b = nI 0 from (if_neg h92).trans (if_neg h101)] at j112
                  exact j112
              · skip
                refine go_iconst (v := nI 1) (by decide) dX12_steps_95 ?_
                refine go_goto (tgt := 109) dX12_steps_96 (by decide) ?_
                refine go_iadd dX12_steps_109 ?_
                refine go_istore (i := 6) dX12_steps_110 (nle rfl) (nle rfl) ?_
                first
                  | rw [show stA b = nI 1 from if_pos h69] at j112
                  | rw [show stA b = -1 from (if_neg h69).trans (if_pos h78)] at j112
                  | rw [show stA b = nI 0 from (if_neg h69).trans (if_neg h78)] at j112
                first
                  | rw [show stD b = nI 1 from if_pos h92] at j112
                  | rw [show stD b = -1 from (if_neg h92).trans (if_pos h101)] at j112
                  | rw [show stD b = nI 0 from (if_neg h92).trans (if_neg h101)] at j112
                exact j112
            · skip
              refine go_iconst (v := -1) (by decide) dX12_steps_81 ?_
              refine go_goto (tgt := 86) dX12_steps_82 (by decide) ?_
              refine go_iadd dX12_steps_86 ?_
              refine go_istore (i := 5) dX12_steps_87 (nle rfl) (nle rfl) ?_
              refine go_iload_n (q := 2) (i := 2) rfl rfl dX12_steps_89 ?_
              refine go_iload_n (q := 1) (i := 1) rfl rfl dX12_steps_90 ?_
              refine go_iconst (v := nI 2) (by decide) dX12_steps_91 ?_
              refine go_icmp_ne (tgt := 99) dX12_steps_92 (by decide) (fun h92 => ?_) (fun h92 => ?_)
              · skip
                refine go_iload_n (q := 1) (i := 1) rfl rfl dX12_steps_99 ?_
                refine go_iconst (v := nI 4) (by decide) dX12_steps_100 ?_
                refine go_icmp_ne (tgt := 108) dX12_steps_101 (by decide) (fun h101 => ?_) (fun h101 => ?_)
                · skip
                  refine go_iconst (v := nI 0) (by decide) dX12_steps_108 ?_
                  refine go_iadd dX12_steps_109 ?_
                  refine go_istore (i := 6) dX12_steps_110 (nle rfl) (nle rfl) ?_
                  first
                    | rw [show stA b = nI 1 from if_pos h69] at j112
                    | rw [show stA b = -1 from (if_neg h69).trans (if_pos h78)] at j112
                    | rw [show stA b = nI 0 from (if_neg h69).trans (if_neg h78)] at j112
                  first
                    | rw [show stD b = nI 1 from if_pos h92] at j112
                    | rw [show stD b = -1 from (if_neg h92).trans (if_pos h101)] at j112
                    | rw [show stD b = nI 0 from (if_neg h92).trans (if_neg h101)] at j112
                  exact j112
                · skip
                  refine go_iconst (v := -1) (by decide) dX12_steps_104 ?_
                  refine go_goto (tgt := 109) dX12_steps_105 (by decide) ?_
                  refine go_iadd dX12_steps_109 ?_
                  refine go_istore (i := 6) dX12_steps_110 (nle rfl) (nle rfl) ?_
                  first
                    | rw [show stA b = nI 1 from if_pos h69] at j112
                    | rw [show stA b = -1 from (if_neg h69).trans (if_pos h78)] at j112
                    | rw [show stA b = nI 0 from (if_neg h69).trans (if_neg h78)] at j112
                  first
                    | rw [show stD b = nI 1 from if_pos h92] at j112
                    | rw [show stD b = -1 from (if_neg h92).trans (if_pos h101)] at j112
                    | rw [show stD b = nI 0 from (if_neg h92).trans (if_neg h101)] at j112
                  exact j112
              · skip
                refine go_iconst (v := nI 1) (by decide) dX12_steps_95 ?_
                refine go_goto (tgt := 109) dX12_steps_96 (by decide) ?_
                refine go_iadd dX12_steps_109 ?_
                refine go_istore (i := 6) dX12_steps_110 (nle rfl) (nle rfl) ?_
                first
                  | rw [show stA b = nI 1 from if_pos h69] at j112
                  | rw [show stA b = -1 from (if_neg h69).trans (if_pos h78)] at j112
                  | rw [show stA b = nI 0 from (if_neg h69).trans (if_neg h78)] at j112
                first
                  | rw [show stD b = nI 1 from if_pos h92] at j112
                  | rw [show stD b = -1 from (if_neg h92).trans (if_pos h101)] at j112
                  | rw [show stD b = nI 0 from (if_neg h92).trans (if_neg h101)] at j112
                exact j112
          · skip
            refine go_iconst (v := nI 1) (by decide) dX12_steps_72 ?_
            refine go_goto (tgt := 86) dX12_steps_73 (by decide) ?_
            refine go_iadd dX12_steps_86 ?_
            refine go_istore (i := 5) dX12_steps_87 (nle rfl) (nle rfl) ?_
            refine go_iload_n (q := 2) (i := 2) rfl rfl dX12_steps_89 ?_
            refine go_iload_n (q := 1) (i := 1) rfl rfl dX12_steps_90 ?_
            refine go_iconst (v := nI 2) (by decide) dX12_steps_91 ?_
            refine go_icmp_ne (tgt := 99) dX12_steps_92 (by decide) (fun h92 => ?_) (fun h92 => ?_)
            · skip
              refine go_iload_n (q := 1) (i := 1) rfl rfl dX12_steps_99 ?_
              refine go_iconst (v := nI 4) (by decide) dX12_steps_100 ?_
              refine go_icmp_ne (tgt := 108) dX12_steps_101 (by decide) (fun h101 => ?_) (fun h101 => ?_)
              · skip
                refine go_iconst (v := nI 0) (by decide) dX12_steps_108 ?_
                refine go_iadd dX12_steps_109 ?_
                refine go_istore (i := 6) dX12_steps_110 (nle rfl) (nle rfl) ?_
                first
                  | rw [show stA b = nI 1 from if_pos h69] at j112
                  | rw [show stA b = -1 from (if_neg h69).trans (if_pos h78)] at j112
                  | rw [show stA b = nI 0 from (if_neg h69).trans (if_neg h78)] at j112
                first
                  | rw [show stD b = nI 1 from if_pos h92] at j112
                  | rw [show stD b = -1 from (if_neg h92).trans (if_pos h101)] at j112
                  | rw [show stD b = nI 0 from (if_neg h92).trans (if_neg h101)] at j112
                exact j112
              · skip
                refine go_iconst (v := -1) (by decide) dX12_steps_104 ?_
                refine go_goto (tgt := 109) dX12_steps_105 (by decide) ?_
                refine go_iadd dX12_steps_109 ?_
                refine go_istore (i := 6) dX12_steps_110 (nle rfl) (nle rfl) ?_
                first
                  | rw [show stA b = nI 1 from if_pos h69] at j112
                  | rw [show stA b = -1 from (if_neg h69).trans (if_pos h78)] at j112
                  | rw [show stA b = nI 0 from (if_neg h69).trans (if_neg h78)] at j112
                first
                  | rw [show stD b = nI 1 from if_pos h92] at j112
                  | rw [show stD b = -1 from (if_neg h92).trans (if_pos h101)] at j112
                  | rw [show stD b = nI 0 from (if_neg h92).trans (if_neg h101)] at j112
                exact j112
            · skip
              refine go_iconst (v := nI 1) (by decide) dX12_steps_95 ?_
              refine go_goto (tgt := 109) dX12_steps_96 (by decide) ?_
              refine go_iadd dX12_steps_109 ?_
              refine go_istore (i := 6) dX12_steps_110 (nle rfl) (nle rfl) ?_
              first
                | rw [show stA b = nI 1 from if_pos h69] at j112
                | rw [show stA b = -1 from (if_neg h69).trans (if_pos h78)] at j112
                | rw [show stA b = nI 0 from (if_neg h69).trans (if_neg h78)] at j112
              first
                | rw [show stD b = nI 1 from if_pos h92] at j112
                | rw [show stD b = -1 from (if_neg h92).trans (if_pos h101)] at j112
                | rw [show stD b = nI 0 from (if_neg h92).trans (if_neg h101)] at j112
              exact j112
      refine go_iload_n (q := 2) (i := 2) rfl rfl dX12_steps_28 ?_
      refine go_aload_n (q := 0) (i := 0) rfl rfl dX12_steps_29 ?_
      refine go_getR lf12_49 rfl hx.o hx.r24 dX12_steps_30 ?_
      refine go_aload_n (q := 0) (i := 0) rfl rfl dX12_steps_33 ?_
      refine go_getI lf12_260 rfl hx.o dX12_steps_34 ?_
      rw [hm.li]
      refine go_iald (j := lv) hx.i24 (by omega) (by first | decide | omega) rfl dX12_steps_37 ?_
      rw [hm.rw]
      refine gn_ge (by omega) (by omega) (tgt := 169) dX12_steps_38 (by decide) (fun h38 => by exfalso; omega) (fun h38 => ?_)
      refine go_iconst (v := nI 0) (by decide) dX12_steps_41 ?_
      refine go_istore_n (q := 3) (i := 3) rfl dX12_steps_42 (nle rfl) (nle rfl) ?_
      exact key2 0 (Nat.zero_le _) mi _ _ _ ⟨c1, e16, hF⟩
  -- the copy ahead
  have k1 : ∀ i, i ≤ 40 → ∀ (mi : Me) (x3 x4 x5 x6 : Option Value), Mh m mi → gI mi 316 = gI m 316 → (∀ k, k < i → gI mi 317 k = gI m 316 k) → Go mX12_steps (fun r m' => r = none ∧ Mh m m' ∧ (∀ k, k < 40 → gI m' 316 k = stY T N P.wd (gI m 316) P.rw k) ∧ (∀ k, 40 ≤ k → gI m' 316 k = gI m 316 k)) 2 [some (.ref 274), some (.int b), some (.int (nI i)), x3, x4, x5, x6] [] mi 0 0 := by
    refine loop_up 40 ?_ ?_
    · intro mi x3 x4 x5 x6 c1 e16 h1
      have hx := c1.1.wf hx0
      have hm := c1.1.md hm0
      refine go_iload_n (q := 2) (i := 2) rfl rfl dX12_steps_2 ?_
      refine go_bipush (v := nI 40) (by decide) dX12_steps_3 ?_
      refine gn_ge (by omega) (by omega) (tgt := 26) dX12_steps_5 (by decide) (fun h5 => ?_) (fun h5 => by exfalso; omega)
      refine go_iconst (v := nI 0) (by decide) dX12_steps_26 ?_
      refine go_istore_n (q := 2) (i := 2) rfl dX12_steps_27 (nle rfl) (nle rfl) ?_
      exact key 0 (Nat.zero_le _) mi _ _ _ _ ⟨c1, e16, h1⟩
    · intro i hi ih mi x3 x4 x5 x6 c1 e16 h1
      have hx := c1.1.wf hx0
      have hm := c1.1.md hm0
      refine go_iload_n (q := 2) (i := 2) rfl rfl dX12_steps_2 ?_
      refine go_bipush (v := nI 40) (by decide) dX12_steps_3 ?_
      refine gn_ge (by omega) (by omega) (tgt := 26) dX12_steps_5 (by decide) (fun h5 => by exfalso; omega) (fun h5 => ?_)
      refine go_aload_n (q := 0) (i := 0) rfl rfl dX12_steps_8 ?_
      refine go_getR lf12_146 rfl hx.o hx.r62 dX12_steps_9 ?_
      refine go_iload_n (q := 2) (i := 2) rfl rfl dX12_steps_12 ?_
      refine go_aload_n (q := 0) (i := 0) rfl rfl dX12_steps_13 ?_
      refine go_getR lf12_143 rfl hx.o hx.r59 dX12_steps_14 ?_
      refine go_iload_n (q := 2) (i := 2) rfl rfl dX12_steps_17 ?_
      refine go_iald (j := i) hx.i59 (by omega) (by first | decide | omega) rfl dX12_steps_18 ?_
      rw [e16]
      refine go_iast (j := i) hx.i62 (by omega) (by first | decide | omega) rfl dX12_steps_19 ?_
      refine gn_inc (i := 2) (a := i) (q := 1) rfl dX12_steps_20 (nle rfl) rfl ?_
      refine go_goto (tgt := 2) dX12_steps_23 (by decide) ?_
      refine ih _ _ _ _ _ (c1.tr (Mh.of (Ch.I (Or.inr (Or.inr (Or.inr rfl)))))) (by rw [gI_n (by decide)]; exact e16) (fun k hk => ?_)
      rw [gI_s]
      unfold upd
      by_cases e : k = i
      · subst e; rw [if_pos rfl]
      · rw [if_neg e]; exact h1 k (by omega)
  refine go_iconst (v := nI 0) (by decide) dX12_steps_0 ?_
  refine go_istore_n (q := 2) (i := 2) rfl dX12_steps_1 (nle rfl) (nle rfl) ?_
  exact k1 0 (Nat.zero_le _) m _ _ _ _ Mh.rf rfl (fun k hk => absurd hk (Nat.not_lt_zero k))
