/-- the class's object: its references; the plan is one of the two -/
def CX (n : Nat) (R : Nat → Nat → Option Nat) (pl dr : Nat) : Prop := Wf11 n R ∧ R 0 12 = some pl ∧ R 0 13 = some dr ∧ ((pl = 226 ∧ dr = 241) ∨ (pl = 241 ∧ dr = 226))
theorem CX.o {n : Nat} {R : Nat → Nat → Option Nat} {pl dr : Nat} (h : CX n R pl dr) : Is n 0 (0, 11) := h.1.o
theorem CX.r0 {n : Nat} {R : Nat → Nat → Option Nat} {pl dr : Nat} (h : CX n R pl dr) : R 0 0 = some 1 := h.1.r0
theorem CX.w0 {n : Nat} {R : Nat → Nat → Option Nat} {pl dr : Nat} (h : CX n R pl dr) : Wf9 n R 1 := h.1.w0
theorem CX.r1 {n : Nat} {R : Nat → Nat → Option Nat} {pl dr : Nat} (h : CX n R pl dr) : R 0 1 = some 3 := h.1.r1
theorem CX.w1 {n : Nat} {R : Nat → Nat → Option Nat} {pl dr : Nat} (h : CX n R pl dr) : Wf10 n R 3 := h.1.w1
theorem CX.r2 {n : Nat} {R : Nat → Nat → Option Nat} {pl dr : Nat} (h : CX n R pl dr) : R 0 2 = some 8 := h.1.r2
theorem CX.w2 {n : Nat} {R : Nat → Nat → Option Nat} {pl dr : Nat} (h : CX n R pl dr) : Wf2 n R 8 := h.1.w2
theorem CX.r3 {n : Nat} {R : Nat → Nat → Option Nat} {pl dr : Nat} (h : CX n R pl dr) : R 0 3 = some 10 := h.1.r3
theorem CX.w3 {n : Nat} {R : Nat → Nat → Option Nat} {pl dr : Nat} (h : CX n R pl dr) : Wf0 n R 10 := h.1.w3
theorem CX.r4 {n : Nat} {R : Nat → Nat → Option Nat} {pl dr : Nat} (h : CX n R pl dr) : R 0 4 = some 13 := h.1.r4
theorem CX.w4 {n : Nat} {R : Nat → Nat → Option Nat} {pl dr : Nat} (h : CX n R pl dr) : Wf8 n R 13 := h.1.w4
theorem CX.r5 {n : Nat} {R : Nat → Nat → Option Nat} {pl dr : Nat} (h : CX n R pl dr) : R 0 5 = some 15 := h.1.r5
theorem CX.w5 {n : Nat} {R : Nat → Nat → Option Nat} {pl dr : Nat} (h : CX n R pl dr) : Wf1 n R 15 := h.1.w5
theorem CX.r6 {n : Nat} {R : Nat → Nat → Option Nat} {pl dr : Nat} (h : CX n R pl dr) : R 0 6 = some 21 := h.1.r6
theorem CX.w6 {n : Nat} {R : Nat → Nat → Option Nat} {pl dr : Nat} (h : CX n R pl dr) : Wf1 n R 21 := h.1.w6
theorem CX.r7 {n : Nat} {R : Nat → Nat → Option Nat} {pl dr : Nat} (h : CX n R pl dr) : R 0 7 = some 27 := h.1.r7
theorem CX.w7 {n : Nat} {R : Nat → Nat → Option Nat} {pl dr : Nat} (h : CX n R pl dr) : Wf6 n R 27 := h.1.w7
theorem CX.r8 {n : Nat} {R : Nat → Nat → Option Nat} {pl dr : Nat} (h : CX n R pl dr) : R 0 8 = some 209 := h.1.r8
theorem CX.i8 {n : Nat} {R : Nat → Nat → Option Nat} {pl dr : Nat} (h : CX n R pl dr) : Is n 209 (5, 3) := h.1.i8
theorem CX.r9 {n : Nat} {R : Nat → Nat → Option Nat} {pl dr : Nat} (h : CX n R pl dr) : R 0 9 = some 210 := h.1.r9
theorem CX.i9 {n : Nat} {R : Nat → Nat → Option Nat} {pl dr : Nat} (h : CX n R pl dr) : Is n 210 (3, 3) := h.1.i9
theorem CX.r10 {n : Nat} {R : Nat → Nat → Option Nat} {pl dr : Nat} (h : CX n R pl dr) : R 0 10 = some 211 := h.1.r10
theorem CX.w10 {n : Nat} {R : Nat → Nat → Option Nat} {pl dr : Nat} (h : CX n R pl dr) : Wf4 n R 211 := h.1.w10
theorem CX.r11 {n : Nat} {R : Nat → Nat → Option Nat} {pl dr : Nat} (h : CX n R pl dr) : R 0 11 = some 224 := h.1.r11
theorem CX.w11 {n : Nat} {R : Nat → Nat → Option Nat} {pl dr : Nat} (h : CX n R pl dr) : Wf3 n R 224 := h.1.w11
theorem CX.slots {n : Nat} {R : Nat → Nat → Option Nat} {pl dr : Nat} (h : CX n R pl dr) : (∀ j, j < 3 → R 209 j = some (256 + 6 * j) ∧ Wf1 n R (256 + 6 * j)) := h.1.slots
theorem CX.p1 {n : Nat} {R : Nat → Nat → Option Nat} {pl dr : Nat} (h : CX n R pl dr) : Wf7 n R 226 := h.1.p1
theorem CX.p2 {n : Nat} {R : Nat → Nat → Option Nat} {pl dr : Nat} (h : CX n R pl dr) : Wf7 n R 241 := h.1.p2
theorem CX.rp {n : Nat} {R : Nat → Nat → Option Nat} {pl dr : Nat} (h : CX n R pl dr) : R 0 12 = some pl := h.2.1
theorem CX.rd {n : Nat} {R : Nat → Nat → Option Nat} {pl dr : Nat} (h : CX n R pl dr) : R 0 13 = some dr := h.2.2.1
theorem CX.pd {n : Nat} {R : Nat → Nat → Option Nat} {pl dr : Nat} (h : CX n R pl dr) : (pl = 226 ∧ dr = 241) ∨ (pl = 241 ∧ dr = 226) := h.2.2.2
theorem CX.wp {n : Nat} {R : Nat → Nat → Option Nat} {pl dr : Nat} (h : CX n R pl dr) : Wf7 n R pl := by
  rcases h.pd with q | q
  · rw [q.1]; exact h.1.p1
  · rw [q.1]; exact h.1.p2
theorem CX.wd {n : Nat} {R : Nat → Nat → Option Nat} {pl dr : Nat} (h : CX n R pl dr) : Wf7 n R dr := by
  rcases h.pd with q | q
  · rw [q.2]; exact h.1.p2
  · rw [q.2]; exact h.1.p1
theorem CX.to {A : Nat → Prop} {m m' : Me} {pl dr : Nat} (c : Ch A m m') (h : CX m.1 (gR m) pl dr) : CX m'.1 (gR m') pl dr := Ch.to (F := fun n R => CX n R pl dr) c h
/-- what the class may write when it only looks: the sky's row, the laws' variables and pile, the run ahead -/
def LkS (pl : Nat) : Nat → Prop := fun x => x = 14 ∨ x = pl + 12 ∨ x = pl + 13 ∨ (21 ≤ x ∧ x ≤ 26)
theorem PlC.lk {m m' : Me} {pl dr : Nat} {P : Pl} (hX : CX m.1 (gR m) pl dr) (c : Ch (LkS pl) m m') (h : PlC m pl P) : PlC m' pl P := by
  have := hX.pd
  exact h.keep (fun x h1 h2 h3 => c.at (by unfold LkS; omega))
set_option maxRecDepth 100000 in
set_option maxHeartbeats 4000000 in
theorem ev_passLater {m : Me} {pl dr : Nat} {P : Pl} (hX : CX m.1 (gR m) pl dr) (hP : PlC m pl P) (ok : PlOk P) {n M : Nat} {se : Int32} {r : Nat → Int32} (hn : n < 2 ^ 18) (hM : M < 2 ^ 18) (hr : RoOk P M r) (hc : CR P (gw m 21) r) : Ev mX11_passLater [.ref 0, .int (nI n), .int se] m (fun x m' => x = none ∧ Ch (LkS pl) m m' ∧ CR P (gw m' 21) (hrN P (-1) se n r)) := by
  refine ⟨plmX11_passLater, nle rfl, ?_⟩
  have hpd := hX.pd
  have key : ∀ i, i ≤ n → ∀ mi : Me, Ch (LkS pl) m mi → RoOk P (M + i) (hrN P (-1) se i r) → CR P (gw mi 21) (hrN P (-1) se i r) → Go mX11_passLater (fun x m' => x = none ∧ Ch (LkS pl) m m' ∧ CR P (gw m' 21) (hrN P (-1) se n r)) 2 [some (.ref 0), some (.int (nI n)), some (.int se), some (.int (nI i))] [] (mi) 0 0 := by
    refine loop_up n ?_ ?_
    · intro mi c1 hri hci
      have hX0 := hX
      have hX := CX.to c1 hX
      have hP := hP.lk hX0 c1
      refine go_iload_n (q := 3) (i := 3) rfl rfl dX11_passLater_2 ?_
      refine go_iload_n (q := 1) (i := 1) rfl rfl dX11_passLater_3 ?_
      refine gn_ge (by omega) (by omega) (tgt := 30) dX11_passLater_4 (by decide) (fun h4 => ?_) (fun h4 => by exfalso; omega)
      refine go_vret rfl ⟨Nat.zero_le _, Nat.zero_le _⟩ dX11_passLater_30 ?_
      exact ⟨rfl, c1, hci⟩
    · intro i hi ih mi c1 hri hci
      have hX0 := hX
      have hX := CX.to c1 hX
      have hP := hP.lk hX0 c1
      refine go_iload_n (q := 3) (i := 3) rfl rfl dX11_passLater_2 ?_
      refine go_iload_n (q := 1) (i := 1) rfl rfl dX11_passLater_3 ?_
      refine gn_ge (by omega) (by omega) (tgt := 30) dX11_passLater_4 (by decide) (fun h4 => by exfalso; omega) (fun h4 => ?_)
      refine go_aload_n (q := 0) (i := 0) rfl rfl dX11_passLater_7 ?_
      refine go_getR lf11_40 rfl hX.o hX.r4 dX11_passLater_8 ?_
      refine go_aload_n (q := 0) (i := 0) rfl rfl dX11_passLater_11 ?_
      refine go_getR lf11_86 rfl hX.o hX.rp dX11_passLater_12 ?_
      refine go_aload_n (q := 0) (i := 0) rfl rfl dX11_passLater_15 ?_
      refine go_getR lf11_51 rfl hX.o hX.r6 dX11_passLater_16 ?_
      refine go_iload_n (q := 2) (i := 2) rfl rfl dX11_passLater_19 ?_
      refine go_iconst (v := -1) (by decide) dX11_passLater_20 ?_
      refine go_callV okmX8_passHour lmX11_238 ⟨nle rfl, nle rfl⟩ hX.w4.o ⟨by decide, rfl⟩ (ev_hour (M := M + i) (se := se) (lk := -1) hX.w4 hX.wp hX.w6 hP ok (by omega) (by omega) (by omega) (by omega) hri hci) npmX8_passHour rfl (nle rfl) ⟨nle rfl, nle rfl⟩ dX11_passLater_21 ?_
      rintro _ m2 ⟨rfl, c2, h2⟩
      refine go_c0 ?_
      refine gn_inc (i := 3) (a := i) (q := 1) rfl dX11_passLater_24 (nle rfl) rfl ?_
      refine go_goto (tgt := 2) dX11_passLater_27 (by decide) ?_
      exact ih _ (c1.tr (c2.mn (fun x hx => by unfold LkS; omega))) (hr_ok (M := M + i) ok (by omega) hri) h2
  have k0 := key 0 (Nat.zero_le _) m Ch.rf hr hc
  refine go_iconst (v := nI 0) (by decide) dX11_passLater_0 ?_
  refine go_istore_n (q := 3) (i := 3) rfl dX11_passLater_1 (nle rfl) (nle rfl) ?_
  exact k0
