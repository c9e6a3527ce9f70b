/-- cell (x, y) is of nobody or of a HOLDING that there is -/
def ceQ (m : Me) (sd : Nat) (D : Dr) (y x : Nat) : Prop := gI m 286 (40 * sd + 8 * y + x) = nI 9 ∨ gI m 286 (40 * sd + 8 * y + x) < nI (D.n 2)
def baQ (m : Me) (sd : Nat) (D : Dr) (b : Nat) : Prop := gI m 297 (12 * sd + b) < nI (D.n 0) ∧ gI m 298 (12 * sd + b) < nI (D.n 1)
def LaQ (m : Me) (sd : Nat) (D : Dr) : Prop := (∀ y, y < D.n 1 → ∀ x, x < D.n 0 → ceQ m sd D y x) ∧ ∀ b, b < D.n 4 → baQ m sd D b
theorem la_q {m : Me} {sd : Nat} {D : Dr} {c : Nat → Nat} (hU : RdU m sd D) (hR : RdC m sd D) (hd : DrO D) (hc : CnW c D) : LaQ m sd D ↔ laO D := by
  obtain ⟨y0, y1, y2, y3, y4, z0, z1, z2, z3⟩ := hc
  have hb : ∀ b, b < D.n 4 → (baQ m sd D b ↔ D.bk b 0 < D.n 0 ∧ D.bk b 1 < D.n 1) := fun b hb => by
    have h7 := hd.2.2.2.2.2.2.1 b hb
    unfold baQ
    rw [(hU.2.2.2.2.1 b hb).1, (hU.2.2.2.2.1 b hb).2.1, nI_ltI (by omega) (by omega), nI_ltI (by omega) (by omega)]
  have hce : ∀ y x, y < D.n 1 → x < D.n 0 → (ceQ m sd D y x ↔ (D.i (100 + (8 * y + x)) = nI 9 ∨ ∃ h, h < D.n 2 ∧ D.i (100 + (8 * y + x)) = nI h)) := fun y x hy hx => by
    unfold ceQ
    rw [show 40 * sd + 8 * y + x = 40 * sd + (8 * y + x) by omega, hR.1 (8 * y + x) (by omega) (by omega) (by omega)]
    rcases hd.2.2.2.2.2.1 (8 * y + x) (by omega) (by omega) (by omega) with e | ⟨j, j1, j2⟩
    · exact ⟨fun _ => Or.inl e, fun _ => Or.inl e⟩
    · rw [j2, nI_ltI (by omega) (by omega), nI_eq (by omega) (by omega)]
      refine ⟨fun q => q.elim Or.inl (fun g => Or.inr ⟨j, g, rfl⟩), fun q => q.elim Or.inl (fun ⟨g, g1, g2⟩ => Or.inr ?_)⟩
      have := (nI_eq (by omega) (by omega)).mp g2
      omega
  unfold LaQ laO
  refine ⟨fun ⟨a, b⟩ => ⟨fun c h1 h2 h3 => ?_, fun i hi => (hb i hi).mp (b i hi)⟩, fun ⟨a, b⟩ => ⟨fun y hy x hx => (hce y x hy hx).mpr (a (8 * y + x) (by omega) (by omega) (by omega)), fun i hi => (hb i hi).mpr (b i hi)⟩⟩
  have := (hce (c / 8) (c % 8) h3 h2).mp (a (c / 8) h3 (c % 8) h2)
  rw [show 8 * (c / 8) + c % 8 = c by omega] at this
  exact this
set_option maxRecDepth 100000 in
set_option maxHeartbeats 8000000 in
theorem ex_isLand {m : Me} {sd : Nat} {D : Dr} {c : Nat → Nat} (hx : Wf12 m.1 (gR m)) (hsd : gI m 274 19 = nI sd) (hs2 : sd < 2) (hU : RdU m sd D) (hcn : CnW c D) : Ev mX12_isLand [.ref 274] m (fun o m' => o = some (.int (pit (LaQ m sd D) (nI 1) (nI 0))) ∧ m' = m) := by
  refine ⟨plmX12_isLand, nle rfl, ?_⟩
  obtain ⟨x0, x1, x2, x3, x4, y0, y1, y2, y3⟩ := id hcn
  have k85 : ∀ (x2 x3 : Option Value), (∀ y0, y0 < D.n 1 → ∀ x, x < D.n 0 → ceQ m sd D y0 x) → ∀ b, b ≤ D.n 4 → (∀ i, i < b → baQ m sd D i) → Go mX12_isLand (fun o m' => o = some (.int (pit (LaQ m sd D) (nI 1) (nI 0))) ∧ m' = m) 85 [some (.ref 274), some (.int (nI b)), x2, x3] [] m 0 0 := by
    intro x2 x3 hcl
    refine loop_up (D.n 4) ?_ ?_
    · intro hb
      refine go_iload_n (q := 1) (i := 1) rfl rfl dX12_isLand_85 ?_
      refine go_aload_n (q := 0) (i := 0) rfl rfl dX12_isLand_86 ?_
      refine go_getR lf12_82 rfl hx.o hx.r35 dX12_isLand_87 ?_
      refine go_aload_n (q := 0) (i := 0) rfl rfl dX12_isLand_90 ?_
      refine go_getI lf12_263 rfl hx.o dX12_isLand_91 ?_
      rw [hsd]
      refine go_iald (j := sd) hx.i35 (by omega) (by first | decide | omega) rfl dX12_isLand_94 ?_
      rw [hU.1.2.2.2.2]
      refine gn_ge (by omega) (by omega) (tgt := 158) dX12_isLand_95 (by decide) (fun h95 => ?_) (fun h95 => by exfalso; omega)
      refine go_iconst (v := nI 1) (by decide) dX12_isLand_158 ?_
      refine go_zret rfl (by decide) ⟨Nat.zero_le _, Nat.zero_le _⟩ dX12_isLand_159 ?_
      rw [pit_t ⟨hcl, hb⟩]
      exact ⟨rfl, rfl⟩
    · intro b hbl ih hb
      refine go_iload_n (q := 1) (i := 1) rfl rfl dX12_isLand_85 ?_
      refine go_aload_n (q := 0) (i := 0) rfl rfl dX12_isLand_86 ?_
      refine go_getR lf12_82 rfl hx.o hx.r35 dX12_isLand_87 ?_
      refine go_aload_n (q := 0) (i := 0) rfl rfl dX12_isLand_90 ?_
      refine go_getI lf12_263 rfl hx.o dX12_isLand_91 ?_
      rw [hsd]
      refine go_iald (j := sd) hx.i35 (by omega) (by first | decide | omega) rfl dX12_isLand_94 ?_
      rw [hU.1.2.2.2.2]
      refine gn_ge (by omega) (by omega) (tgt := 158) dX12_isLand_95 (by decide) (fun h95 => by exfalso; omega) (fun h95 => ?_)
      refine go_aload_n (q := 0) (i := 0) rfl rfl dX12_isLand_98 ?_
      refine go_getR lf12_85 rfl hx.o hx.r36 dX12_isLand_99 ?_
      refine go_bipush (v := nI 12) (by decide) dX12_isLand_102 ?_
      refine go_aload_n (q := 0) (i := 0) rfl rfl dX12_isLand_104 ?_
      refine go_getI lf12_263 rfl hx.o dX12_isLand_105 ?_
      rw [hsd]
      refine gn_mul dX12_isLand_108 ?_
      refine go_iload_n (q := 1) (i := 1) rfl rfl dX12_isLand_109 ?_
      refine gn_add dX12_isLand_110 ?_
      refine go_iald (j := ((12 * sd) + b)) hx.i36 (by omega) (by first | decide | omega) rfl dX12_isLand_111 ?_
      refine go_aload_n (q := 0) (i := 0) rfl rfl dX12_isLand_112 ?_
      refine go_getR lf12_46 rfl hx.o hx.r23 dX12_isLand_113 ?_
      refine go_aload_n (q := 0) (i := 0) rfl rfl dX12_isLand_116 ?_
      refine go_getI lf12_263 rfl hx.o dX12_isLand_117 ?_
      rw [hsd]
      refine go_iald (j := sd) hx.i23 (by omega) (by first | decide | omega) rfl dX12_isLand_120 ?_
      rw [hU.1.1]
      refine go_icmp_ge (tgt := 150) dX12_isLand_121 (by decide) (fun h121 => ?_) (fun h121 => ?_)
      · skip
        refine go_iconst (v := nI 0) (by decide) dX12_isLand_150 ?_
        refine go_zret rfl (by decide) ⟨Nat.zero_le _, Nat.zero_le _⟩ dX12_isLand_151 ?_
        rw [pit_f (fun q => absurd (q.2 b hbl).1 (Int32.not_lt.mpr h121))]
        exact ⟨rfl, rfl⟩
      · skip
        refine go_aload_n (q := 0) (i := 0) rfl rfl dX12_isLand_124 ?_
        refine go_getR lf12_88 rfl hx.o hx.r37 dX12_isLand_125 ?_
        refine go_bipush (v := nI 12) (by decide) dX12_isLand_128 ?_
        refine go_aload_n (q := 0) (i := 0) rfl rfl dX12_isLand_130 ?_
        refine go_getI lf12_263 rfl hx.o dX12_isLand_131 ?_
        rw [hsd]
        refine gn_mul dX12_isLand_134 ?_
        refine go_iload_n (q := 1) (i := 1) rfl rfl dX12_isLand_135 ?_
        refine gn_add dX12_isLand_136 ?_
        refine go_iald (j := ((12 * sd) + b)) hx.i37 (by omega) (by first | decide | omega) rfl dX12_isLand_137 ?_
        refine go_aload_n (q := 0) (i := 0) rfl rfl dX12_isLand_138 ?_
        refine go_getR lf12_49 rfl hx.o hx.r24 dX12_isLand_139 ?_
        refine go_aload_n (q := 0) (i := 0) rfl rfl dX12_isLand_142 ?_
        refine go_getI lf12_263 rfl hx.o dX12_isLand_143 ?_
        rw [hsd]
        refine go_iald (j := sd) hx.i24 (by omega) (by first | decide | omega) rfl dX12_isLand_146 ?_
        rw [hU.1.2.1]
        refine go_icmp_lt (tgt := 152) dX12_isLand_147 (by decide) (fun h147 => ?_) (fun h147 => ?_)
        · skip
          refine gn_inc (i := 1) (a := b) (q := 1) rfl dX12_isLand_152 (nle rfl) rfl ?_
          refine go_goto (tgt := 85) dX12_isLand_155 (by decide) ?_
          refine ih (fun i hi => ?_)
          by_cases e : i = b
          · rw [e]; exact ⟨Int32.not_le.mp h121, h147⟩
          · exact hb i (by omega)
        · skip
          refine go_iconst (v := nI 0) (by decide) dX12_isLand_150 ?_
          refine go_zret rfl (by decide) ⟨Nat.zero_le _, Nat.zero_le _⟩ dX12_isLand_151 ?_
          rw [pit_f (fun q => h147 (q.2 b hbl).2)]
          exact ⟨rfl, rfl⟩
  have key2 : ∀ y, y ≤ D.n 1 → (∀ y0, y0 < y → ∀ x, x < D.n 0 → ceQ m sd D y0 x) → ∀ (x2 x3 : Option Value), Go mX12_isLand (fun o m' => o = some (.int (pit (LaQ m sd D) (nI 1) (nI 0))) ∧ m' = m) 2 [some (.ref 274), some (.int (nI y)), x2, x3] [] m 0 0 := by
    refine loop_up (D.n 1) ?_ ?_
    · intro hcl x2 x3
      refine go_iload_n (q := 1) (i := 1) rfl rfl dX12_isLand_2 ?_
      refine go_aload_n (q := 0) (i := 0) rfl rfl dX12_isLand_3 ?_
      refine go_getR lf12_49 rfl hx.o hx.r24 dX12_isLand_4 ?_
      refine go_aload_n (q := 0) (i := 0) rfl rfl dX12_isLand_7 ?_
      refine go_getI lf12_263 rfl hx.o dX12_isLand_8 ?_
      rw [hsd]
      refine go_iald (j := sd) hx.i24 (by omega) (by first | decide | omega) rfl dX12_isLand_11 ?_
      rw [hU.1.2.1]
      refine gn_ge (by omega) (by omega) (tgt := 83) dX12_isLand_12 (by decide) (fun h12 => ?_) (fun h12 => by exfalso; omega)
      refine go_iconst (v := nI 0) (by decide) dX12_isLand_83 ?_
      refine go_istore_n (q := 1) (i := 1) rfl dX12_isLand_84 (nle rfl) (nle rfl) ?_
      exact k85 x2 x3 hcl 0 (Nat.zero_le _) (fun i hi => absurd hi (Nat.not_lt_zero i))
    · intro y hy ih hcl x2 x3
      have key17 : ∀ x, x ≤ D.n 0 → (∀ x', x' < x → ceQ m sd D y x') → ∀ (x3 : Option Value), Go mX12_isLand (fun o m' => o = some (.int (pit (LaQ m sd D) (nI 1) (nI 0))) ∧ m' = m) 17 [some (.ref 274), some (.int (nI y)), some (.int (nI x)), x3] [] m 0 0 := by
        refine loop_up (D.n 0) ?_ ?_
        · intro hrow x3
          refine go_iload_n (q := 2) (i := 2) rfl rfl dX12_isLand_17 ?_
          refine go_aload_n (q := 0) (i := 0) rfl rfl dX12_isLand_18 ?_
          refine go_getR lf12_46 rfl hx.o hx.r23 dX12_isLand_19 ?_
          refine go_aload_n (q := 0) (i := 0) rfl rfl dX12_isLand_22 ?_
          refine go_getI lf12_263 rfl hx.o dX12_isLand_23 ?_
          rw [hsd]
          refine go_iald (j := sd) hx.i23 (by omega) (by first | decide | omega) rfl dX12_isLand_26 ?_
          rw [hU.1.1]
          refine gn_ge (by omega) (by omega) (tgt := 77) dX12_isLand_27 (by decide) (fun h27 => ?_) (fun h27 => by exfalso; omega)
          refine gn_inc (i := 1) (a := y) (q := 1) rfl dX12_isLand_77 (nle rfl) rfl ?_
          refine go_goto (tgt := 2) dX12_isLand_80 (by decide) ?_
          refine ih (fun y' hy' x' hx' => ?_) _ _
          by_cases e : y' = y
          · rw [e]; exact hrow x' hx'
          · exact hcl y' (by omega) x' hx'
        · intro x hx2 ihx hrow x3
          refine go_iload_n (q := 2) (i := 2) rfl rfl dX12_isLand_17 ?_
          refine go_aload_n (q := 0) (i := 0) rfl rfl dX12_isLand_18 ?_
          refine go_getR lf12_46 rfl hx.o hx.r23 dX12_isLand_19 ?_
          refine go_aload_n (q := 0) (i := 0) rfl rfl dX12_isLand_22 ?_
          refine go_getI lf12_263 rfl hx.o dX12_isLand_23 ?_
          rw [hsd]
          refine go_iald (j := sd) hx.i23 (by omega) (by first | decide | omega) rfl dX12_isLand_26 ?_
          rw [hU.1.1]
          refine gn_ge (by omega) (by omega) (tgt := 77) dX12_isLand_27 (by decide) (fun h27 => by exfalso; omega) (fun h27 => ?_)
          refine go_aload_n (q := 0) (i := 0) rfl rfl dX12_isLand_30 ?_
          refine go_getR lf12_52 rfl hx.o hx.r25 dX12_isLand_31 ?_
          refine go_bipush (v := nI 40) (by decide) dX12_isLand_34 ?_
          refine go_aload_n (q := 0) (i := 0) rfl rfl dX12_isLand_36 ?_
          refine go_getI lf12_263 rfl hx.o dX12_isLand_37 ?_
          rw [hsd]
          refine gn_mul dX12_isLand_40 ?_
          refine go_bipush (v := nI 8) (by decide) dX12_isLand_41 ?_
          refine go_iload_n (q := 1) (i := 1) rfl rfl dX12_isLand_43 ?_
          refine gn_mul dX12_isLand_44 ?_
          refine gn_add dX12_isLand_45 ?_
          refine go_iload_n (q := 2) (i := 2) rfl rfl dX12_isLand_46 ?_
          refine gn_add dX12_isLand_47 ?_
          refine go_iald (j := (((40 * sd) + (8 * y)) + x)) hx.i25 (by omega) (by first | decide | omega) rfl dX12_isLand_48 ?_
          refine go_istore_n (q := 3) (i := 3) rfl dX12_isLand_49 (nle rfl) (nle rfl) ?_
          refine go_iload_n (q := 3) (i := 3) rfl rfl dX12_isLand_50 ?_
          refine go_bipush (v := nI 9) (by decide) dX12_isLand_51 ?_
          refine go_icmp_eq (tgt := 71) dX12_isLand_53 (by decide) (fun h53 => ?_) (fun h53 => ?_)
          · skip
            refine gn_inc (i := 2) (a := x) (q := 1) rfl dX12_isLand_71 (nle rfl) rfl ?_
            refine go_goto (tgt := 17) dX12_isLand_74 (by decide) ?_
            refine ihx (fun x' hx' => ?_) _
            by_cases e : x' = x
            · rw [e]; exact Or.inl h53
            · exact hrow x' (by omega)
          · skip
            refine go_iload_n (q := 3) (i := 3) rfl rfl dX12_isLand_56 ?_
            refine go_aload_n (q := 0) (i := 0) rfl rfl dX12_isLand_57 ?_
            refine go_getR lf12_58 rfl hx.o hx.r27 dX12_isLand_58 ?_
            refine go_aload_n (q := 0) (i := 0) rfl rfl dX12_isLand_61 ?_
            refine go_getI lf12_263 rfl hx.o dX12_isLand_62 ?_
            rw [hsd]
            refine go_iald (j := sd) hx.i27 (by omega) (by first | decide | omega) rfl dX12_isLand_65 ?_
            rw [hU.1.2.2.1]
            refine go_icmp_lt (tgt := 71) dX12_isLand_66 (by decide) (fun h66 => ?_) (fun h66 => ?_)
            · skip
              refine gn_inc (i := 2) (a := x) (q := 1) rfl dX12_isLand_71 (nle rfl) rfl ?_
              refine go_goto (tgt := 17) dX12_isLand_74 (by decide) ?_
              refine ihx (fun x' hx' => ?_) _
              by_cases e : x' = x
              · rw [e]; exact Or.inr h66
              · exact hrow x' (by omega)
            · skip
              refine go_iconst (v := nI 0) (by decide) dX12_isLand_69 ?_
              refine go_zret rfl (by decide) ⟨Nat.zero_le _, Nat.zero_le _⟩ dX12_isLand_70 ?_
              rw [pit_f (fun q => (q.1 y hy x hx2).elim h53 h66)]
              exact ⟨rfl, rfl⟩
      refine go_iload_n (q := 1) (i := 1) rfl rfl dX12_isLand_2 ?_
      refine go_aload_n (q := 0) (i := 0) rfl rfl dX12_isLand_3 ?_
      refine go_getR lf12_49 rfl hx.o hx.r24 dX12_isLand_4 ?_
      refine go_aload_n (q := 0) (i := 0) rfl rfl dX12_isLand_7 ?_
      refine go_getI lf12_263 rfl hx.o dX12_isLand_8 ?_
      rw [hsd]
      refine go_iald (j := sd) hx.i24 (by omega) (by first | decide | omega) rfl dX12_isLand_11 ?_
      rw [hU.1.2.1]
      refine gn_ge (by omega) (by omega) (tgt := 83) dX12_isLand_12 (by decide) (fun h12 => by exfalso; omega) (fun h12 => ?_)
      refine go_iconst (v := nI 0) (by decide) dX12_isLand_15 ?_
      refine go_istore_n (q := 2) (i := 2) rfl dX12_isLand_16 (nle rfl) (nle rfl) ?_
      exact key17 0 (Nat.zero_le _) (fun x' hx' => absurd hx' (Nat.not_lt_zero x')) _
  refine go_iconst (v := nI 0) (by decide) dX12_isLand_0 ?_
  refine go_istore_n (q := 1) (i := 1) rfl dX12_isLand_1 (nle rfl) (nle rfl) ?_
  exact key2 0 (Nat.zero_le _) (fun y hy => absurd hy (Nat.not_lt_zero y)) none none
theorem FS.up {sd r j : Nat} {m m' : Me} {v : Int32} (c : FS sd m m') (h : SD sd r j) : FS sd m (sI m' r (upd (gI m' r) j v)) := fun r' j' a b n => by
  by_cases q : r' = r
  · subst q
    rw [gI_s, upd_ne (fun w => n (by rw [w]; exact h))]
    exact c r' j' a b n
  · rw [gI_n q]; exact c r' j' a b n
abbrev FY (m m' : Me) : Prop := Fx (fun x => 284 ≤ x ∧ x ≤ 304) (fun _ => False) m m'
/-- a side that tells nothing -/
def RzU (m : Me) (sd : Nat) : Prop := (gI m 284 sd = nI 0 ∧ gI m 285 sd = nI 0 ∧ gI m 288 sd = nI 0 ∧ gI m 291 sd = nI 0 ∧ gI m 296 sd = nI 0) ∧ gI m 300 sd = nI 0 ∧ gI m 301 sd = nI 3 ∧ gI m 302 sd = nI 0
theorem RzU.keep {m m' : Me} {sd : Nat} (h : RzU m sd) (e : ∀ x, 284 ≤ x → x ≤ 302 → gI m' x = gI m x) : RzU m' sd := by
  unfold RzU
  rw [e 284 (by decide) (by decide), e 285 (by decide) (by decide), e 288 (by decide) (by decide), e 291 (by decide) (by decide), e 296 (by decide) (by decide), e 300 (by decide) (by decide), e 301 (by decide) (by decide), e 302 (by decide) (by decide)]
  exact h
set_option maxRecDepth 100000 in
set_option maxHeartbeats 8000000 in
theorem ex_plain {m : Me} {sd : Nat} (hx : Wf12 m.1 (gR m)) (hs2 : sd < 2) : Ev mX12_plain [.ref 274, .int (nI sd)] m (fun o m' => o = none ∧ RzU m' sd ∧ (∀ k, k < 4 → gI m' 303 (4 * sd + k) = nI 0 ∧ gI m' 304 (4 * sd + k) = nI 0) ∧ FY m m' ∧ FS sd m m') := by
  refine ⟨plmX12_plain, nle rfl, ?_⟩
  have key : ∀ i, i ≤ 4 → ∀ (m9 : Me), RzU m9 sd → (∀ k, k < i → gI m9 303 (4 * sd + k) = nI 0 ∧ gI m9 304 (4 * sd + k) = nI 0) → FY m m9 → FS sd m m9 → Go mX12_plain (fun o m' => o = none ∧ RzU m' sd ∧ (∀ k, k < 4 → gI m' 303 (4 * sd + k) = nI 0 ∧ gI m' 304 (4 * sd + k) = nI 0) ∧ FY m m' ∧ FS sd m m') 58 [some (.ref 274), some (.int (nI sd)), some (.int (nI i))] [] m9 0 0 := by
    refine loop_up 4 ?_ ?_
    · intro m9 hz hl fy fs
      have hx : Wf12 m9.1 (gR m9) := fy.to (F := Wf12) hx
      refine go_iload_n (q := 2) (i := 2) rfl rfl dX12_plain_58 ?_
      refine go_iconst (v := nI 4) (by decide) dX12_plain_59 ?_
      refine gn_ge (by omega) (by omega) (tgt := 91) dX12_plain_60 (by decide) (fun h60 => ?_) (fun h60 => by exfalso; omega)
      refine go_vret rfl ⟨Nat.zero_le _, Nat.zero_le _⟩ dX12_plain_91 ?_
      exact ⟨rfl, hz, hl, fy, fs⟩
    · intro i hi ih m9 hz hl fy fs
      have hx : Wf12 m9.1 (gR m9) := fy.to (F := Wf12) hx
      refine go_iload_n (q := 2) (i := 2) rfl rfl dX12_plain_58 ?_
      refine go_iconst (v := nI 4) (by decide) dX12_plain_59 ?_
      refine gn_ge (by omega) (by omega) (tgt := 91) dX12_plain_60 (by decide) (fun h60 => by exfalso; omega) (fun h60 => ?_)
      refine go_aload_n (q := 0) (i := 0) rfl rfl dX12_plain_63 ?_
      refine go_getR lf12_103 rfl hx.o hx.r42 dX12_plain_64 ?_
      refine go_iconst (v := nI 4) (by decide) dX12_plain_67 ?_
      refine go_iload_n (q := 1) (i := 1) rfl rfl dX12_plain_68 ?_
      refine gn_mul dX12_plain_69 ?_
      refine go_iload_n (q := 2) (i := 2) rfl rfl dX12_plain_70 ?_
      refine gn_add dX12_plain_71 ?_
      refine go_iconst (v := nI 0) (by decide) dX12_plain_72 ?_
      refine go_iast (j := ((4 * sd) + i)) hx.i42 (by omega) (by first | decide | omega) rfl dX12_plain_73 ?_
      refine go_aload_n (q := 0) (i := 0) rfl rfl dX12_plain_74 ?_
      refine go_getR lf12_106 rfl hx.o hx.r43 dX12_plain_75 ?_
      refine go_iconst (v := nI 4) (by decide) dX12_plain_78 ?_
      refine go_iload_n (q := 1) (i := 1) rfl rfl dX12_plain_79 ?_
      refine gn_mul dX12_plain_80 ?_
      refine go_iload_n (q := 2) (i := 2) rfl rfl dX12_plain_81 ?_
      refine gn_add dX12_plain_82 ?_
      refine go_iconst (v := nI 0) (by decide) dX12_plain_83 ?_
      refine go_iast (j := ((4 * sd) + i)) hx.i43 (by omega) (by first | decide | omega) rfl dX12_plain_84 ?_
      refine gn_inc (i := 2) (a := i) (q := 1) rfl dX12_plain_85 (nle rfl) rfl ?_
      refine go_goto (tgt := 58) dX12_plain_88 (by decide) ?_
      refine ih _ (hz.keep (fun x a b => by rw [gI_n (by omega), gI_n (by omega)])) (fun k hk => ?_) (Fx.I (Fx.I fy (by decide)) (by decide)) ((fs.up (SD.of (b := 4) (i := i) rfl rfl (by omega))).up (SD.of (b := 4) (i := i) rfl rfl (by omega)))
      rw [gI_n (show 303 ≠ 304 by decide), gI_s, gI_s, gI_n (show 304 ≠ 303 by decide), upd_c, upd_c]
      by_cases e : k = i
      · rw [if_pos (by omega), if_pos (by omega)]; exact ⟨rfl, rfl⟩
      · rw [if_neg (by omega), if_neg (by omega)]; exact hl k (by omega)
  have fs : FS sd m m := fun _ _ _ _ _ => rfl
  have fy : FY m m := Fx.rf
  refine go_aload_n (q := 0) (i := 0) rfl rfl dX12_plain_0 ?_
  refine go_getR lf12_46 rfl hx.o hx.r23 dX12_plain_1 ?_
  refine go_iload_n (q := 1) (i := 1) rfl rfl dX12_plain_4 ?_
  refine go_iconst (v := nI 0) (by decide) dX12_plain_5 ?_
  refine go_iast (j := sd) hx.i23 (by omega) (by first | decide | omega) rfl dX12_plain_6 ?_
  generalize hmE : sI m 284 (upd (gI m 284) sd (nI 0)) = m1
  have fs : FS sd m m1 := by rw [← hmE]; exact fs.up (SD.at rfl)
  have fy : FY m m1 := by rw [← hmE]; exact Fx.I fy (by decide)
  have hx : Wf12 m1.1 (gR m1) := by rw [← hmE]; exact hx
  have q284 : gI m1 284 sd = nI 0 := by rw [← hmE, gI_s, upd_same]
  clear hmE
  refine go_aload_n (q := 0) (i := 0) rfl rfl dX12_plain_7 ?_
  refine go_getR lf12_49 rfl hx.o hx.r24 dX12_plain_8 ?_
  refine go_iload_n (q := 1) (i := 1) rfl rfl dX12_plain_11 ?_
  refine go_iconst (v := nI 0) (by decide) dX12_plain_12 ?_
  refine go_iast (j := sd) hx.i24 (by omega) (by first | decide | omega) rfl dX12_plain_13 ?_
  generalize hmE : sI m1 285 (upd (gI m1 285) sd (nI 0)) = m2
  have fs : FS sd m m2 := by rw [← hmE]; exact fs.up (SD.at rfl)
  have fy : FY m m2 := by rw [← hmE]; exact Fx.I fy (by decide)
  have hx : Wf12 m2.1 (gR m2) := by rw [← hmE]; exact hx
  have q285 : gI m2 285 sd = nI 0 := by rw [← hmE, gI_s, upd_same]
  have q284 : gI m2 284 sd = nI 0 := by rw [← hmE, gI_n (by decide)]; exact q284
  clear hmE
  refine go_aload_n (q := 0) (i := 0) rfl rfl dX12_plain_14 ?_
  refine go_getR lf12_58 rfl hx.o hx.r27 dX12_plain_15 ?_
  refine go_iload_n (q := 1) (i := 1) rfl rfl dX12_plain_18 ?_
  refine go_iconst (v := nI 0) (by decide) dX12_plain_19 ?_
  refine go_iast (j := sd) hx.i27 (by omega) (by first | decide | omega) rfl dX12_plain_20 ?_
  generalize hmE : sI m2 288 (upd (gI m2 288) sd (nI 0)) = m3
  have fs : FS sd m m3 := by rw [← hmE]; exact fs.up (SD.at rfl)
  have fy : FY m m3 := by rw [← hmE]; exact Fx.I fy (by decide)
  have hx : Wf12 m3.1 (gR m3) := by rw [← hmE]; exact hx
  have q288 : gI m3 288 sd = nI 0 := by rw [← hmE, gI_s, upd_same]
  have q284 : gI m3 284 sd = nI 0 := by rw [← hmE, gI_n (by decide)]; exact q284
  have q285 : gI m3 285 sd = nI 0 := by rw [← hmE, gI_n (by decide)]; exact q285
  clear hmE
  refine go_aload_n (q := 0) (i := 0) rfl rfl dX12_plain_21 ?_
  refine go_getR lf12_67 rfl hx.o hx.r30 dX12_plain_22 ?_
  refine go_iload_n (q := 1) (i := 1) rfl rfl dX12_plain_25 ?_
  refine go_iconst (v := nI 0) (by decide) dX12_plain_26 ?_
  refine go_iast (j := sd) hx.i30 (by omega) (by first | decide | omega) rfl dX12_plain_27 ?_
  generalize hmE : sI m3 291 (upd (gI m3 291) sd (nI 0)) = m4
  have fs : FS sd m m4 := by rw [← hmE]; exact fs.up (SD.at rfl)
  have fy : FY m m4 := by rw [← hmE]; exact Fx.I fy (by decide)
  have hx : Wf12 m4.1 (gR m4) := by rw [← hmE]; exact hx
  have q291 : gI m4 291 sd = nI 0 := by rw [← hmE, gI_s, upd_same]
  have q284 : gI m4 284 sd = nI 0 := by rw [← hmE, gI_n (by decide)]; exact q284
  have q285 : gI m4 285 sd = nI 0 := by rw [← hmE, gI_n (by decide)]; exact q285
  have q288 : gI m4 288 sd = nI 0 := by rw [← hmE, gI_n (by decide)]; exact q288
  clear hmE
  refine go_aload_n (q := 0) (i := 0) rfl rfl dX12_plain_28 ?_
  refine go_getR lf12_82 rfl hx.o hx.r35 dX12_plain_29 ?_
  refine go_iload_n (q := 1) (i := 1) rfl rfl dX12_plain_32 ?_
  refine go_iconst (v := nI 0) (by decide) dX12_plain_33 ?_
  refine go_iast (j := sd) hx.i35 (by omega) (by first | decide | omega) rfl dX12_plain_34 ?_
  generalize hmE : sI m4 296 (upd (gI m4 296) sd (nI 0)) = m5
  have fs : FS sd m m5 := by rw [← hmE]; exact fs.up (SD.at rfl)
  have fy : FY m m5 := by rw [← hmE]; exact Fx.I fy (by decide)
  have hx : Wf12 m5.1 (gR m5) := by rw [← hmE]; exact hx
  have q296 : gI m5 296 sd = nI 0 := by rw [← hmE, gI_s, upd_same]
  have q284 : gI m5 284 sd = nI 0 := by rw [← hmE, gI_n (by decide)]; exact q284
  have q285 : gI m5 285 sd = nI 0 := by rw [← hmE, gI_n (by decide)]; exact q285
  have q288 : gI m5 288 sd = nI 0 := by rw [← hmE, gI_n (by decide)]; exact q288
  have q291 : gI m5 291 sd = nI 0 := by rw [← hmE, gI_n (by decide)]; exact q291
  clear hmE
  refine go_aload_n (q := 0) (i := 0) rfl rfl dX12_plain_35 ?_
  refine go_getR lf12_94 rfl hx.o hx.r39 dX12_plain_36 ?_
  refine go_iload_n (q := 1) (i := 1) rfl rfl dX12_plain_39 ?_
  refine go_iconst (v := nI 0) (by decide) dX12_plain_40 ?_
  refine go_iast (j := sd) hx.i39 (by omega) (by first | decide | omega) rfl dX12_plain_41 ?_
  generalize hmE : sI m5 300 (upd (gI m5 300) sd (nI 0)) = m6
  have fs : FS sd m m6 := by rw [← hmE]; exact fs.up (SD.at rfl)
  have fy : FY m m6 := by rw [← hmE]; exact Fx.I fy (by decide)
  have hx : Wf12 m6.1 (gR m6) := by rw [← hmE]; exact hx
  have q300 : gI m6 300 sd = nI 0 := by rw [← hmE, gI_s, upd_same]
  have q284 : gI m6 284 sd = nI 0 := by rw [← hmE, gI_n (by decide)]; exact q284
  have q285 : gI m6 285 sd = nI 0 := by rw [← hmE, gI_n (by decide)]; exact q285
  have q288 : gI m6 288 sd = nI 0 := by rw [← hmE, gI_n (by decide)]; exact q288
  have q291 : gI m6 291 sd = nI 0 := by rw [← hmE, gI_n (by decide)]; exact q291
  have q296 : gI m6 296 sd = nI 0 := by rw [← hmE, gI_n (by decide)]; exact q296
  clear hmE
  refine go_aload_n (q := 0) (i := 0) rfl rfl dX12_plain_42 ?_
  refine go_getR lf12_97 rfl hx.o hx.r40 dX12_plain_43 ?_
  refine go_iload_n (q := 1) (i := 1) rfl rfl dX12_plain_46 ?_
  refine go_iconst (v := nI 3) (by decide) dX12_plain_47 ?_
  refine go_iast (j := sd) hx.i40 (by omega) (by first | decide | omega) rfl dX12_plain_48 ?_
  generalize hmE : sI m6 301 (upd (gI m6 301) sd (nI 3)) = m7
  have fs : FS sd m m7 := by rw [← hmE]; exact fs.up (SD.at rfl)
  have fy : FY m m7 := by rw [← hmE]; exact Fx.I fy (by decide)
  have hx : Wf12 m7.1 (gR m7) := by rw [← hmE]; exact hx
  have q301 : gI m7 301 sd = nI 3 := by rw [← hmE, gI_s, upd_same]
  have q284 : gI m7 284 sd = nI 0 := by rw [← hmE, gI_n (by decide)]; exact q284
  have q285 : gI m7 285 sd = nI 0 := by rw [← hmE, gI_n (by decide)]; exact q285
  have q288 : gI m7 288 sd = nI 0 := by rw [← hmE, gI_n (by decide)]; exact q288
  have q291 : gI m7 291 sd = nI 0 := by rw [← hmE, gI_n (by decide)]; exact q291
  have q296 : gI m7 296 sd = nI 0 := by rw [← hmE, gI_n (by decide)]; exact q296
  have q300 : gI m7 300 sd = nI 0 := by rw [← hmE, gI_n (by decide)]; exact q300
  clear hmE
  refine go_aload_n (q := 0) (i := 0) rfl rfl dX12_plain_49 ?_
  refine go_getR lf12_100 rfl hx.o hx.r41 dX12_plain_50 ?_
  refine go_iload_n (q := 1) (i := 1) rfl rfl dX12_plain_53 ?_
  refine go_iconst (v := nI 0) (by decide) dX12_plain_54 ?_
  refine go_iast (j := sd) hx.i41 (by omega) (by first | decide | omega) rfl dX12_plain_55 ?_
  generalize hmE : sI m7 302 (upd (gI m7 302) sd (nI 0)) = m8
  have fs : FS sd m m8 := by rw [← hmE]; exact fs.up (SD.at rfl)
  have fy : FY m m8 := by rw [← hmE]; exact Fx.I fy (by decide)
  have hx : Wf12 m8.1 (gR m8) := by rw [← hmE]; exact hx
  have q302 : gI m8 302 sd = nI 0 := by rw [← hmE, gI_s, upd_same]
  have q284 : gI m8 284 sd = nI 0 := by rw [← hmE, gI_n (by decide)]; exact q284
  have q285 : gI m8 285 sd = nI 0 := by rw [← hmE, gI_n (by decide)]; exact q285
  have q288 : gI m8 288 sd = nI 0 := by rw [← hmE, gI_n (by decide)]; exact q288
  have q291 : gI m8 291 sd = nI 0 := by rw [← hmE, gI_n (by decide)]; exact q291
  have q296 : gI m8 296 sd = nI 0 := by rw [← hmE, gI_n (by decide)]; exact q296
  have q300 : gI m8 300 sd = nI 0 := by rw [← hmE, gI_n (by decide)]; exact q300
  have q301 : gI m8 301 sd = nI 3 := by rw [← hmE, gI_n (by decide)]; exact q301
  clear hmE
  refine go_iconst (v := nI 0) (by decide) dX12_plain_56 ?_
  refine go_istore_n (q := 2) (i := 2) rfl dX12_plain_57 (nle rfl) (nle rfl) ?_
  exact key 0 (Nat.zero_le _) m8 ⟨⟨q284, q285, q288, q291, q296⟩, q300, q301, q302⟩ (fun k hk => absurd hk (Nat.not_lt_zero k)) fy fs
