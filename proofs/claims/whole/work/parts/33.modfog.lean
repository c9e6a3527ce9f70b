/-- the same cells, either way -/
theorem ic_ca {P : Pl} (ok : PlOk P) (X Y : Int32) : (icS P X Y = nI 0 ∧ caS (nI P.wd) (nI P.rw) X Y = -1) ∨ (icS P X Y = nI 1 ∧ ∃ x y, x < P.wd ∧ y < P.rw ∧ X = nI x ∧ Y = nI y ∧ caS (nI P.wd) (nI P.rw) X Y = nI (8 * y + x)) := by
  have hw := ok.1
  have hr := ok.2.1
  have key : ∀ (n : Nat) (Z : Int32), n ≤ 8 → (inS Z (nI 0) (nI n - nI 1) = nI 0 ∧ (Z < 0 ∨ nI n ≤ Z)) ∨ (inS Z (nI 0) (nI n - nI 1) = nI 1 ∧ ∃ z, z < n ∧ Z = nI z) := by
    intro n Z hn
    by_cases h0 : Z < 0
    · left
      exact ⟨by unfold inS; rw [if_pos (by rw [nI_0]; exact h0)], Or.inl h0⟩
    by_cases h1 : nI n ≤ Z
    · left
      refine ⟨?_, Or.inr h1⟩
      unfold inS
      rw [if_neg (by rw [nI_0]; exact h0), if_pos]
      rw [Int32.lt_iff_toInt_lt]
      rw [Int32.le_iff_toInt_le, nI_toInt (by omega)] at h1
      rw [pk_sub_toInt (by omega) (by omega)]
      omega
    · right
      obtain ⟨j, hj, rfl⟩ := nat_of (n := n) rfl (by omega) h0 h1
      refine ⟨?_, j, hj, rfl⟩
      unfold inS
      rw [if_neg (by rw [nI_0]; exact h0), if_neg]
      rw [Int32.lt_iff_toInt_lt, pk_sub_toInt (by omega) (by omega), nI_toInt (by omega)]
      omega
  have h10 : ¬ nI 1 = nI 0 := by decide
  rcases key P.wd X hw with ⟨a1, a2⟩ | ⟨a1, x, hx, rfl⟩
  · left
    refine ⟨by unfold icS; rw [if_pos a1], ?_⟩
    unfold caS
    rcases a2 with a2 | a2
    · rw [if_pos a2]
    · by_cases q : X < 0
      · rw [if_pos q]
      · rw [if_neg q, if_pos a2]
  rcases key P.rw Y (by omega) with ⟨b1, b2⟩ | ⟨b1, y, hy, rfl⟩
  · left
    refine ⟨by unfold icS; rw [if_neg (by rw [a1]; exact h10), if_pos b1], ?_⟩
    unfold caS
    rw [if_neg (nI_pos (by omega)), if_neg (fun q => by rw [nI_leI (by omega) (by omega)] at q; omega)]
    rcases b2 with b2 | b2
    · rw [if_pos b2]
    · by_cases q : Y < 0
      · rw [if_pos q]
      · rw [if_neg q, if_neg (Int32.not_lt.mpr b2)]
  · right
    refine ⟨by unfold icS; rw [if_neg (by rw [a1]; exact h10), if_neg (by rw [b1]; exact h10)], x, y, hx, hy, rfl, rfl, ?_⟩
    unfold caS
    rw [if_neg (nI_pos (by omega)), if_neg (fun q => by rw [nI_leI (by omega) (by omega)] at q; omega), if_neg (nI_pos (by omega)), if_pos ((nI_ltI (by omega) (by omega)).mpr hy), pk_mul, nI_add, Nat.mul_comm]
/-- the reference's sums: a row, then rows -/
def fgX (f w : Nat → Int32) (h : Int32) (y : Nat) (acc : Int32) : Nat → Int32
  | 0 => acc
  | x + 1 => if w (8 * y + x) = h then fgX f w h y acc x + f (8 * y + x) else fgX f w h y acc x
def fgY (f w : Nat → Int32) (h : Int32) (wd : Nat) : Nat → Int32
  | 0 => nI 0
  | y + 1 => fgX f w h y (fgY f w h wd y) wd
def ctX (w : Nat → Int32) (h : Int32) (y : Nat) (acc : Nat) : Nat → Nat
  | 0 => acc
  | x + 1 => if w (8 * y + x) = h then ctX w h y acc x + 1 else ctX w h y acc x
def ctY (w : Nat → Int32) (h : Int32) (wd : Nat) : Nat → Nat
  | 0 => 0
  | y + 1 => ctX w h y (ctY w h wd y) wd
theorem ctX_le (w : Nat → Int32) (h : Int32) (y acc : Nat) : ∀ x, ctX w h y acc x ≤ acc + x
  | 0 => Nat.le_refl _
  | x + 1 => by
    have := ctX_le w h y acc x
    rw [ctX]; split <;> omega
theorem ctY_le (w : Nat → Int32) (h : Int32) (wd : Nat) : ∀ y, ctY w h wd y ≤ y * wd
  | 0 => by simp [ctY]
  | y + 1 => by
    have := ctY_le w h wd y
    have h2 := ctX_le w h y (ctY w h wd y) wd
    rw [ctY, Nat.succ_mul]; omega
set_option maxRecDepth 100000 in
set_option maxHeartbeats 4000000 in
theorem ex_fogOf {m : Me} {P : Pl} {lv : Nat} (hx : Wf12 m.1 (gR m)) (hm : MdC m P lv) {h : Int32} (ok : PlOk P) : Ev mX12_fogOf [.ref 274, .int h] m (fun r m' => r = some (.int (fgY (gI m 316) (fun c => gI m 316 (40 + c)) h P.wd P.rw)) ∧ m' = m) := by
  refine ⟨plmX12_fogOf, nle rfl, ?_⟩
  have hlv := hm.lv
  have hw8 := ok.1
  have hr5 := ok.2.1
  have key : ∀ y, y ≤ P.rw → ∀ (x4 : Option Value), Go mX12_fogOf (fun r m' => r = some (.int (fgY (gI m 316) (fun c => gI m 316 (40 + c)) h P.wd P.rw)) ∧ m' = m) 4 [some (.ref 274), some (.int h), some (.int (fgY (gI m 316) (fun c => gI m 316 (40 + c)) h P.wd y)), some (.int (nI y)), x4] [] (m) 0 0 := by
    refine loop_up P.rw ?_ ?_
    · intro x4 
      refine go_iload_n (q := 3) (i := 3) rfl rfl dX12_fogOf_4 ?_
      refine go_aload_n (q := 0) (i := 0) rfl rfl dX12_fogOf_5 ?_
      refine go_getR lf12_49 rfl hx.o hx.r24 dX12_fogOf_6 ?_
      refine go_aload_n (q := 0) (i := 0) rfl rfl dX12_fogOf_9 ?_
      refine go_getI lf12_260 rfl hx.o dX12_fogOf_10 ?_
      rw [hm.li]
      refine go_iald (j := lv) hx.i24 (by omega) (by first | decide | omega) rfl dX12_fogOf_13 ?_
      rw [hm.rw]
      refine gn_ge (by omega) (by omega) (tgt := 80) dX12_fogOf_14 (by decide) (fun h14 => ?_) (fun h14 => by exfalso; omega)
      refine go_iload_n (q := 2) (i := 2) rfl rfl dX12_fogOf_80 ?_
      refine go_iret rfl ⟨Nat.zero_le _, Nat.zero_le _⟩ dX12_fogOf_81 ?_
      exact ⟨rfl, rfl⟩
    · intro y hi ih x4 
      have key2 : ∀ x, x ≤ P.wd → Go mX12_fogOf (fun r m' => r = some (.int (fgY (gI m 316) (fun c => gI m 316 (40 + c)) h P.wd P.rw)) ∧ m' = m) 20 [some (.ref 274), some (.int h), some (.int (fgX (gI m 316) (fun c => gI m 316 (40 + c)) h y (fgY (gI m 316) (fun c => gI m 316 (40 + c)) h P.wd y) x)), some (.int (nI y)), some (.int (nI x))] [] (m) 0 0 := by
        refine loop_up P.wd ?_ ?_
        · skip
          refine go_iload (i := 4) rfl dX12_fogOf_20 ?_
          refine go_aload_n (q := 0) (i := 0) rfl rfl dX12_fogOf_22 ?_
          refine go_getR lf12_46 rfl hx.o hx.r23 dX12_fogOf_23 ?_
          refine go_aload_n (q := 0) (i := 0) rfl rfl dX12_fogOf_26 ?_
          refine go_getI lf12_260 rfl hx.o dX12_fogOf_27 ?_
          rw [hm.li]
          refine go_iald (j := lv) hx.i23 (by omega) (by first | decide | omega) rfl dX12_fogOf_30 ?_
          rw [hm.wd]
          refine gn_ge (by omega) (by omega) (tgt := 74) dX12_fogOf_31 (by decide) (fun h31 => ?_) (fun h31 => by exfalso; omega)
          refine gn_inc (i := 3) (a := y) (q := 1) rfl dX12_fogOf_74 (nle rfl) rfl ?_
          refine go_goto (tgt := 4) dX12_fogOf_77 (by decide) ?_
          exact ih _
        · intro x hj ih2
          refine go_iload (i := 4) rfl dX12_fogOf_20 ?_
          refine go_aload_n (q := 0) (i := 0) rfl rfl dX12_fogOf_22 ?_
          refine go_getR lf12_46 rfl hx.o hx.r23 dX12_fogOf_23 ?_
          refine go_aload_n (q := 0) (i := 0) rfl rfl dX12_fogOf_26 ?_
          refine go_getI lf12_260 rfl hx.o dX12_fogOf_27 ?_
          rw [hm.li]
          refine go_iald (j := lv) hx.i23 (by omega) (by first | decide | omega) rfl dX12_fogOf_30 ?_
          rw [hm.wd]
          refine gn_ge (by omega) (by omega) (tgt := 74) dX12_fogOf_31 (by decide) (fun h31 => by exfalso; omega) (fun h31 => ?_)
          refine go_aload_n (q := 0) (i := 0) rfl rfl dX12_fogOf_34 ?_
          refine go_getR lf12_143 rfl hx.o hx.r59 dX12_fogOf_35 ?_
          refine go_bipush (v := nI 40) (by decide) dX12_fogOf_38 ?_
          refine go_bipush (v := nI 8) (by decide) dX12_fogOf_40 ?_
          refine go_iload_n (q := 3) (i := 3) rfl rfl dX12_fogOf_42 ?_
          refine gn_mul dX12_fogOf_43 ?_
          refine gn_add dX12_fogOf_44 ?_
          refine go_iload (i := 4) rfl dX12_fogOf_45 ?_
          refine gn_add dX12_fogOf_47 ?_
          refine go_iald (j := ((40 + (8 * y)) + x)) hx.i59 (by omega) (by first | decide | omega) rfl dX12_fogOf_48 ?_
          rw [show 40 + 8 * y + x = 40 + (8 * y + x) by omega]
          refine go_iload_n (q := 1) (i := 1) rfl rfl dX12_fogOf_49 ?_
          refine go_icmp_ne (tgt := 68) dX12_fogOf_50 (by decide) (fun h50 => ?_) (fun h50 => ?_)
          · skip
            refine gn_inc (i := 4) (a := x) (q := 1) rfl dX12_fogOf_68 (nle rfl) rfl ?_
            refine go_goto (tgt := 20) dX12_fogOf_71 (by decide) ?_
            rw [show fgX (gI m 316) (fun c => gI m 316 (40 + c)) h y (fgY (gI m 316) (fun c => gI m 316 (40 + c)) h P.wd y) ((x + 1)) = fgX (gI m 316) (fun c => gI m 316 (40 + c)) h y (fgY (gI m 316) (fun c => gI m 316 (40 + c)) h P.wd y) x from if_neg h50] at ih2
            exact ih2
          · skip
            refine go_iload_n (q := 2) (i := 2) rfl rfl dX12_fogOf_53 ?_
            refine go_aload_n (q := 0) (i := 0) rfl rfl dX12_fogOf_54 ?_
            refine go_getR lf12_143 rfl hx.o hx.r59 dX12_fogOf_55 ?_
            refine go_bipush (v := nI 8) (by decide) dX12_fogOf_58 ?_
            refine go_iload_n (q := 3) (i := 3) rfl rfl dX12_fogOf_60 ?_
            refine gn_mul dX12_fogOf_61 ?_
            refine go_iload (i := 4) rfl dX12_fogOf_62 ?_
            refine gn_add dX12_fogOf_64 ?_
            refine go_iald (j := ((8 * y) + x)) hx.i59 (by omega) (by first | decide | omega) rfl dX12_fogOf_65 ?_
            refine go_iadd dX12_fogOf_66 ?_
            refine go_istore_n (q := 2) (i := 2) rfl dX12_fogOf_67 (nle rfl) (nle rfl) ?_
            refine gn_inc (i := 4) (a := x) (q := 1) rfl dX12_fogOf_68 (nle rfl) rfl ?_
            refine go_goto (tgt := 20) dX12_fogOf_71 (by decide) ?_
            rw [show fgX (gI m 316) (fun c => gI m 316 (40 + c)) h y (fgY (gI m 316) (fun c => gI m 316 (40 + c)) h P.wd y) ((x + 1)) = fgX (gI m 316) (fun c => gI m 316 (40 + c)) h y (fgY (gI m 316) (fun c => gI m 316 (40 + c)) h P.wd y) x + (gI m 316) (8 * y + x) from if_pos h50] at ih2
            exact ih2
      refine go_iload_n (q := 3) (i := 3) rfl rfl dX12_fogOf_4 ?_
      refine go_aload_n (q := 0) (i := 0) rfl rfl dX12_fogOf_5 ?_
      refine go_getR lf12_49 rfl hx.o hx.r24 dX12_fogOf_6 ?_
      refine go_aload_n (q := 0) (i := 0) rfl rfl dX12_fogOf_9 ?_
      refine go_getI lf12_260 rfl hx.o dX12_fogOf_10 ?_
      rw [hm.li]
      refine go_iald (j := lv) hx.i24 (by omega) (by first | decide | omega) rfl dX12_fogOf_13 ?_
      rw [hm.rw]
      refine gn_ge (by omega) (by omega) (tgt := 80) dX12_fogOf_14 (by decide) (fun h14 => by exfalso; omega) (fun h14 => ?_)
      refine go_iconst (v := nI 0) (by decide) dX12_fogOf_17 ?_
      refine go_istore (i := 4) dX12_fogOf_18 (nle rfl) (nle rfl) ?_
      exact key2 0 (Nat.zero_le _)
  refine go_iconst (v := nI 0) (by decide) dX12_fogOf_0 ?_
  refine go_istore_n (q := 2) (i := 2) rfl dX12_fogOf_1 (nle rfl) (nle rfl) ?_
  refine go_iconst (v := nI 0) (by decide) dX12_fogOf_2 ?_
  refine go_istore_n (q := 3) (i := 3) rfl dX12_fogOf_3 (nle rfl) (nle rfl) ?_
  exact key 0 (Nat.zero_le _) none
set_option maxRecDepth 100000 in
set_option maxHeartbeats 4000000 in
theorem ex_cellsOf {m : Me} {P : Pl} {lv : Nat} (hx : Wf12 m.1 (gR m)) (hm : MdC m P lv) {h : Int32} (ok : PlOk P) : Ev mX12_cellsOf [.ref 274, .int h] m (fun r m' => r = some (.int (nI (ctY (fun c => gI m 316 (40 + c)) h P.wd P.rw))) ∧ m' = m) := by
  refine ⟨plmX12_cellsOf, nle rfl, ?_⟩
  have hlv := hm.lv
  have hw8 := ok.1
  have hr5 := ok.2.1
  have key : ∀ y, y ≤ P.rw → ∀ (x4 : Option Value), Go mX12_cellsOf (fun r m' => r = some (.int (nI (ctY (fun c => gI m 316 (40 + c)) h P.wd P.rw))) ∧ m' = m) 4 [some (.ref 274), some (.int h), some (.int (nI (ctY (fun c => gI m 316 (40 + c)) h P.wd y))), some (.int (nI y)), x4] [] (m) 0 0 := by
    refine loop_up P.rw ?_ ?_
    · intro x4 
      refine go_iload_n (q := 3) (i := 3) rfl rfl dX12_cellsOf_4 ?_
      refine go_aload_n (q := 0) (i := 0) rfl rfl dX12_cellsOf_5 ?_
      refine go_getR lf12_49 rfl hx.o hx.r24 dX12_cellsOf_6 ?_
      refine go_aload_n (q := 0) (i := 0) rfl rfl dX12_cellsOf_9 ?_
      refine go_getI lf12_260 rfl hx.o dX12_cellsOf_10 ?_
      rw [hm.li]
      refine go_iald (j := lv) hx.i24 (by omega) (by first | decide | omega) rfl dX12_cellsOf_13 ?_
      rw [hm.rw]
      refine gn_ge (by omega) (by omega) (tgt := 68) dX12_cellsOf_14 (by decide) (fun h14 => ?_) (fun h14 => by exfalso; omega)
      refine go_iload_n (q := 2) (i := 2) rfl rfl dX12_cellsOf_68 ?_
      refine go_iret rfl ⟨Nat.zero_le _, Nat.zero_le _⟩ dX12_cellsOf_69 ?_
      exact ⟨rfl, rfl⟩
    · intro y hi ih x4 
      have key2 : ∀ x, x ≤ P.wd → Go mX12_cellsOf (fun r m' => r = some (.int (nI (ctY (fun c => gI m 316 (40 + c)) h P.wd P.rw))) ∧ m' = m) 20 [some (.ref 274), some (.int h), some (.int (nI (ctX (fun c => gI m 316 (40 + c)) h y (ctY (fun c => gI m 316 (40 + c)) h P.wd y) x))), some (.int (nI y)), some (.int (nI x))] [] (m) 0 0 := by
        refine loop_up P.wd ?_ ?_
        · skip
          refine go_iload (i := 4) rfl dX12_cellsOf_20 ?_
          refine go_aload_n (q := 0) (i := 0) rfl rfl dX12_cellsOf_22 ?_
          refine go_getR lf12_46 rfl hx.o hx.r23 dX12_cellsOf_23 ?_
          refine go_aload_n (q := 0) (i := 0) rfl rfl dX12_cellsOf_26 ?_
          refine go_getI lf12_260 rfl hx.o dX12_cellsOf_27 ?_
          rw [hm.li]
          refine go_iald (j := lv) hx.i23 (by omega) (by first | decide | omega) rfl dX12_cellsOf_30 ?_
          rw [hm.wd]
          refine gn_ge (by omega) (by omega) (tgt := 62) dX12_cellsOf_31 (by decide) (fun h31 => ?_) (fun h31 => by exfalso; omega)
          refine gn_inc (i := 3) (a := y) (q := 1) rfl dX12_cellsOf_62 (nle rfl) rfl ?_
          refine go_goto (tgt := 4) dX12_cellsOf_65 (by decide) ?_
          exact ih _
        · intro x hj ih2
          refine go_iload (i := 4) rfl dX12_cellsOf_20 ?_
          refine go_aload_n (q := 0) (i := 0) rfl rfl dX12_cellsOf_22 ?_
          refine go_getR lf12_46 rfl hx.o hx.r23 dX12_cellsOf_23 ?_
          refine go_aload_n (q := 0) (i := 0) rfl rfl dX12_cellsOf_26 ?_
          refine go_getI lf12_260 rfl hx.o dX12_cellsOf_27 ?_
          rw [hm.li]
          refine go_iald (j := lv) hx.i23 (by omega) (by first | decide | omega) rfl dX12_cellsOf_30 ?_
          rw [hm.wd]
          refine gn_ge (by omega) (by omega) (tgt := 62) dX12_cellsOf_31 (by decide) (fun h31 => by exfalso; omega) (fun h31 => ?_)
          refine go_aload_n (q := 0) (i := 0) rfl rfl dX12_cellsOf_34 ?_
          refine go_getR lf12_143 rfl hx.o hx.r59 dX12_cellsOf_35 ?_
          refine go_bipush (v := nI 40) (by decide) dX12_cellsOf_38 ?_
          refine go_bipush (v := nI 8) (by decide) dX12_cellsOf_40 ?_
          refine go_iload_n (q := 3) (i := 3) rfl rfl dX12_cellsOf_42 ?_
          refine gn_mul dX12_cellsOf_43 ?_
          refine gn_add dX12_cellsOf_44 ?_
          refine go_iload (i := 4) rfl dX12_cellsOf_45 ?_
          refine gn_add dX12_cellsOf_47 ?_
          refine go_iald (j := ((40 + (8 * y)) + x)) hx.i59 (by omega) (by first | decide | omega) rfl dX12_cellsOf_48 ?_
          rw [show 40 + 8 * y + x = 40 + (8 * y + x) by omega]
          refine go_iload_n (q := 1) (i := 1) rfl rfl dX12_cellsOf_49 ?_
          refine go_icmp_ne (tgt := 56) dX12_cellsOf_50 (by decide) (fun h50 => ?_) (fun h50 => ?_)
          · skip
            refine gn_inc (i := 4) (a := x) (q := 1) rfl dX12_cellsOf_56 (nle rfl) rfl ?_
            refine go_goto (tgt := 20) dX12_cellsOf_59 (by decide) ?_
            rw [show ctX (fun c => gI m 316 (40 + c)) h y (ctY (fun c => gI m 316 (40 + c)) h P.wd y) ((x + 1)) = ctX (fun c => gI m 316 (40 + c)) h y (ctY (fun c => gI m 316 (40 + c)) h P.wd y) x from if_neg h50] at ih2
            exact ih2
          · skip
            refine gn_inc (i := 2) (a := ctX (fun c => gI m 316 (40 + c)) h y (ctY (fun c => gI m 316 (40 + c)) h P.wd y) x) (q := 1) rfl dX12_cellsOf_53 (nle rfl) rfl ?_
            refine gn_inc (i := 4) (a := x) (q := 1) rfl dX12_cellsOf_56 (nle rfl) rfl ?_
            refine go_goto (tgt := 20) dX12_cellsOf_59 (by decide) ?_
            rw [show ctX (fun c => gI m 316 (40 + c)) h y (ctY (fun c => gI m 316 (40 + c)) h P.wd y) ((x + 1)) = ctX (fun c => gI m 316 (40 + c)) h y (ctY (fun c => gI m 316 (40 + c)) h P.wd y) x + 1 from if_pos h50] at ih2
            exact ih2
      refine go_iload_n (q := 3) (i := 3) rfl rfl dX12_cellsOf_4 ?_
      refine go_aload_n (q := 0) (i := 0) rfl rfl dX12_cellsOf_5 ?_
      refine go_getR lf12_49 rfl hx.o hx.r24 dX12_cellsOf_6 ?_
      refine go_aload_n (q := 0) (i := 0) rfl rfl dX12_cellsOf_9 ?_
      refine go_getI lf12_260 rfl hx.o dX12_cellsOf_10 ?_
      rw [hm.li]
      refine go_iald (j := lv) hx.i24 (by omega) (by first | decide | omega) rfl dX12_cellsOf_13 ?_
      rw [hm.rw]
      refine gn_ge (by omega) (by omega) (tgt := 68) dX12_cellsOf_14 (by decide) (fun h14 => by exfalso; omega) (fun h14 => ?_)
      refine go_iconst (v := nI 0) (by decide) dX12_cellsOf_17 ?_
      refine go_istore (i := 4) dX12_cellsOf_18 (nle rfl) (nle rfl) ?_
      exact key2 0 (Nat.zero_le _)
  refine go_iconst (v := nI 0) (by decide) dX12_cellsOf_0 ?_
  refine go_istore_n (q := 2) (i := 2) rfl dX12_cellsOf_1 (nle rfl) (nle rfl) ?_
  refine go_iconst (v := nI 0) (by decide) dX12_cellsOf_2 ?_
  refine go_istore_n (q := 3) (i := 3) rfl dX12_cellsOf_3 (nle rfl) (nle rfl) ?_
  exact key 0 (Nat.zero_le _) none
set_option maxRecDepth 100000 in
set_option maxHeartbeats 4000000 in
theorem ex_givesTo {m : Me} {P : Pl} {lv : Nat} (hx : Wf12 m.1 (gR m)) (hm : MdC m P lv) {h : Nat} (ok : PlOk P) (hh : h < P.hd) : Ev mX12_givesTo [.ref 274, .int (nI h)] m (fun r m' => r = some (.int (hlS (P.lw 3 (eG (gI m 316 104) (fgY (gI m 316) (fun c => gI m 316 (40 + c)) (nI h) P.wd P.rw) (gI m 316 (80 + h)) (P.ra h) h)) (nI 0) (nI 99))) ∧ Mh m m' ∧ gI m' 316 = gI m 316) := by
  refine ⟨plmX12_givesTo, nle rfl, ?_⟩
  have hlv := hm.lv
  have hd4 := ok.2.2.1
  refine go_aload_n (q := 0) (i := 0) rfl rfl dX12_givesTo_0 ?_
  refine go_iload_n (q := 1) (i := 1) rfl rfl dX12_givesTo_1 ?_
  refine go_callV okmX12_fogOf lmX12_387 ⟨nle rfl, nle rfl⟩ hx.o ⟨by decide, rfl⟩ (ex_fogOf hx hm ok) npmX12_fogOf rfl (nle rfl) ⟨nle rfl, nle rfl⟩ dX12_givesTo_2 ?_
  rintro _ mz ⟨rfl, hz⟩
  subst mz
  generalize hfs : fgY (gI m 316) (fun c => gI m 316 (40 + c)) (nI h) P.wd P.rw = fs
  refine go_c1 ?_
  refine go_istore_n (q := 2) (i := 2) rfl dX12_givesTo_5 (nle rfl) (nle rfl) ?_
  refine go_aload_n (q := 0) (i := 0) rfl rfl dX12_givesTo_6 ?_
  refine go_aload_n (q := 0) (i := 0) rfl rfl dX12_givesTo_7 ?_
  refine go_getR lf12_143 rfl hx.o hx.r59 dX12_givesTo_8 ?_
  refine go_bipush (v := nI 104) (by decide) dX12_givesTo_11 ?_
  refine go_iald (j := 104) hx.i59 (by omega) (by first | decide | omega) rfl dX12_givesTo_13 ?_
  refine go_callV okmX12_looks lmX12_378 ⟨nle rfl, nle rfl⟩ hx.o ⟨by decide, rfl⟩ (ex_looks hx) npmX12_looks rfl (nle rfl) ⟨nle rfl, nle rfl⟩ dX12_givesTo_14 ?_
  rintro _ m1 ⟨rfl, h1⟩
  have c1 : Mh m m1 := Mh.of (by rw [h1]; exact Ch.I (Or.inl rfl))
  have e1 : gI m1 313 = cp 9 (cvS (gI m 316 104)) (gI m 313) := by rw [h1, gI_s]
  have e16 : gI m1 316 = gI m 316 := by rw [h1]; exact gI_n (by decide)
  have e289 : gI m1 289 = gI m 289 := by rw [h1]; exact gI_n (by decide)
  have hm0 := hm
  have hx0 := hx
  have hx := c1.1.wf hx
  have hm := c1.1.md hm
  refine go_c0 ?_
  refine go_aload_n (q := 0) (i := 0) rfl rfl dX12_givesTo_17 ?_
  refine go_getR lf12_134 rfl hx.o hx.r55 dX12_givesTo_18 ?_
  refine go_iconst (v := nI 0) (by decide) dX12_givesTo_21 ?_
  refine go_iload_n (q := 2) (i := 2) rfl rfl dX12_givesTo_22 ?_
  refine go_iast (j := 0) hx.i55 (by omega) (by first | decide | omega) rfl dX12_givesTo_23 ?_
  refine go_aload_n (q := 0) (i := 0) rfl rfl dX12_givesTo_24 ?_
  refine go_getR lf12_134 rfl hx.o hx.r55 dX12_givesTo_25 ?_
  refine go_iconst (v := nI 5) (by decide) dX12_givesTo_28 ?_
  refine go_iload_n (q := 1) (i := 1) rfl rfl dX12_givesTo_29 ?_
  refine go_iast (j := 5) hx.i55 (by omega) (by first | decide | omega) rfl dX12_givesTo_30 ?_
  rw [sI_sI, gI_s]
  refine go_aload_n (q := 0) (i := 0) rfl rfl dX12_givesTo_31 ?_
  refine go_getR lf12_134 rfl hx.o hx.r55 dX12_givesTo_32 ?_
  refine go_bipush (v := nI 6) (by decide) dX12_givesTo_35 ?_
  refine go_aload_n (q := 0) (i := 0) rfl rfl dX12_givesTo_37 ?_
  refine go_getR lf12_143 rfl hx.o hx.r59 dX12_givesTo_38 ?_
  refine go_bipush (v := nI 80) (by decide) dX12_givesTo_41 ?_
  refine go_iload_n (q := 1) (i := 1) rfl rfl dX12_givesTo_43 ?_
  refine gn_add dX12_givesTo_44 ?_
  refine go_iald (j := (80 + h)) hx.i59 (by omega) (by first | decide | omega) rfl dX12_givesTo_45 ?_
  rw [gI_n (show 316 ≠ 313 by decide), e16]
  refine go_iast (j := 6) hx.i55 (by omega) (by first | decide | omega) rfl dX12_givesTo_46 ?_
  rw [sI_sI, gI_s]
  refine go_aload_n (q := 0) (i := 0) rfl rfl dX12_givesTo_47 ?_
  refine go_getR lf12_134 rfl hx.o hx.r55 dX12_givesTo_48 ?_
  refine go_bipush (v := nI 7) (by decide) dX12_givesTo_51 ?_
  refine go_aload_n (q := 0) (i := 0) rfl rfl dX12_givesTo_53 ?_
  refine go_getR lf12_61 rfl hx.o hx.r28 dX12_givesTo_54 ?_
  refine go_iconst (v := nI 4) (by decide) dX12_givesTo_57 ?_
  refine go_aload_n (q := 0) (i := 0) rfl rfl dX12_givesTo_58 ?_
  refine go_getI lf12_260 rfl hx.o dX12_givesTo_59 ?_
  rw [gI_n (show 274 ≠ 313 by decide), hm.li]
  refine gn_mul dX12_givesTo_62 ?_
  refine go_iload_n (q := 1) (i := 1) rfl rfl dX12_givesTo_63 ?_
  refine gn_add dX12_givesTo_64 ?_
  refine go_iald (j := ((4 * lv) + h)) hx.i28 (by omega) (by first | decide | omega) rfl dX12_givesTo_65 ?_
  rw [gI_n (show 289 ≠ 313 by decide), e289]
  refine go_iast (j := 7) hx.i55 (by omega) (by first | decide | omega) rfl dX12_givesTo_66 ?_
  rw [sI_sI, gI_s]
  generalize hmA : sI m1 313 _ = mA
  have eV : ∀ i, i < 9 → gI mA 313 i = (eG (gI m 316 104) fs (gI m 316 (80 + h)) (gI m 289 (4 * lv + h)) h) i := by
    intro i hi
    rw [← hmA, gI_s, e1]
    unfold upd eG
    by_cases q0 : i = 0
    · subst q0; simp
    by_cases q7 : i = 7
    · subst q7; simp
    by_cases q6 : i = 6
    · subst q6; simp
    by_cases q5 : i = 5
    · subst q5; simp
    simp only [q0, q5, q6, q7, if_false]
    exact cp_in hi
  have cA : Mh m mA := c1.tr (Mh.of (by rw [← hmA]; exact Ch.I (Or.inl rfl)))
  have eA : gI mA 316 = gI m 316 := by rw [← hmA, gI_n (by decide), e16]
  have hx := cA.1.wf hx0
  have hm := cA.1.md hm0
  refine go_aload_n (q := 0) (i := 0) rfl rfl dX12_givesTo_67 ?_
  refine go_iconst (v := nI 3) (by decide) dX12_givesTo_68 ?_
  refine go_aload_n (q := 0) (i := 0) rfl rfl dX12_givesTo_69 ?_
  refine go_getR lf12_134 rfl hx.o hx.r55 dX12_givesTo_70 ?_
  refine go_bipush (v := nI 7) (by decide) dX12_givesTo_73 ?_
  refine go_iald (j := 7) hx.i55 (by omega) (by first | decide | omega) rfl dX12_givesTo_75 ?_
  refine go_callV okmX12_lawTells lmX12_381 ⟨nle rfl, nle rfl⟩ hx.o ⟨by decide, rfl⟩ (ex_lawTells (k := 3) hx hm.li hlv (by decide) hm.lw rfl) npmX12_lawTells rfl (nle rfl) ⟨nle rfl, nle rfl⟩ dX12_givesTo_76 ?_
  rintro _ m3 ⟨rfl, cb⟩
  have c3 := cA.tr (Mh.cb cb)
  rw [lw_c ok (by decide) eV, (hm0.ra h hh).1]
  refine go_c1 ?_
  refine go_iconst (v := nI 0) (by decide) dX12_givesTo_79 ?_
  refine go_bipush (v := nI 99) (by decide) dX12_givesTo_80 ?_
  refine go_callS okmX12_held lmX12_384 ⟨nle rfl, nle rfl⟩ (ex_held) npmX12_held rfl (nle rfl) ⟨nle rfl, nle rfl⟩ dX12_givesTo_82 ?_
  rintro _ mz ⟨rfl, hz⟩
  subst mz
  refine go_c1 ?_
  refine go_iret rfl ⟨Nat.zero_le _, Nat.zero_le _⟩ dX12_givesTo_85 ?_
  exact ⟨rfl, c3, by rw [cb.1.at (by decide), eA]⟩
