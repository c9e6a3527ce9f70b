theorem go_own {M : MD} {Q : Option Value → Me → Prop} {pc : Nat} {L : List (Option Value)} {S : List Value} {cc zz n : Nat} {I : Nat → Nat → Int32} {J : Nat → Nat → Int64} {X : Nat → Nat → Option Nat} {a : Nat} {r : Nat → Option Nat} (e : X a = r) (h : ∀ Y, Y = X → Go M Q pc L S (n, I, J, va_up Y a r) cc zz) : Go M Q pc L S (n, I, J, X) cc zz := by
  have k := h X rfl
  rw [up_id e] at k
  exact k
theorem rgO_n {R : Nat → Nat → Option Nat} {a i x : Nat} (h : ∀ j, j < i → x ≠ a + 6 * j) : rgO R a i x = R x := by
  induction i with
  | zero => rfl
  | succ i ih => exact (up_n (h i (Nat.lt_succ_self i))).trans (ih (fun j hj => h j (Nat.lt_succ_of_lt hj)))
theorem rgO_lt {R : Nat → Nat → Option Nat} {a i x : Nat} (h : x < a) : rgO R a i x = R x := rgO_n (fun j _ => by omega)
theorem rgO_at {R : Nat → Nat → Option Nat} {a i j : Nat} (h : j < i) : rgO R a i (a + 6 * j) = TR1 (a + 6 * j) := by
  induction i with
  | zero => exact absurd h (Nat.not_lt_zero j)
  | succ i ih =>
    by_cases e : j = i
    · subst e; exact up_s
    · exact (up_n (by omega)).trans (ih (by omega))
theorem wf9_row {n a : Nat} {R : Nat → Nat → Option Nat} (hs : SHs a [(0, 9), (2, 2000)]) (hn : a + 2 ≤ n) (e : R a = TR9 a) : Wf9 n R a := ⟨⟨hs 0 (by decide), by omega⟩, by rw [e]; rfl, ⟨hs 1 (by decide), by omega⟩⟩
theorem wf10_row {n a : Nat} {R : Nat → Nat → Option Nat} (hs : SHs a [(0, 10), (4, 23), (1, 401), (4, 401), (1, 401)]) (hn : a + 5 ≤ n) (e : R a = TR10 a) : Wf10 n R a := ⟨⟨hs 0 (by decide), by omega⟩, by rw [e]; rfl, ⟨hs 1 (by decide), by omega⟩, by rw [e]; rfl, ⟨hs 2 (by decide), by omega⟩, by rw [e]; rfl, ⟨hs 3 (by decide), by omega⟩, by rw [e]; rfl, ⟨hs 4 (by decide), by omega⟩⟩
theorem wf2_row {n a : Nat} {R : Nat → Nat → Option Nat} (hs : SHs a [(0, 2), (1, 4)]) (hn : a + 2 ≤ n) (e : R a = TR2 a) : Wf2 n R a := ⟨⟨hs 0 (by decide), by omega⟩, by rw [e]; rfl, ⟨hs 1 (by decide), by omega⟩⟩
theorem wf0_row {n a : Nat} {R : Nat → Nat → Option Nat} (hs : SHs a [(0, 0), (4, 4), (4, 6)]) (hn : a + 3 ≤ n) (e : R a = TR0 a) : Wf0 n R a := ⟨⟨hs 0 (by decide), by omega⟩, by rw [e]; rfl, ⟨hs 1 (by decide), by omega⟩, by rw [e]; rfl, ⟨hs 2 (by decide), by omega⟩⟩
theorem wf8_row {n a : Nat} {R : Nat → Nat → Option Nat} (hs : SHs a [(0, 8), (1, 40)]) (hn : a + 2 ≤ n) (e : R a = TR8 a) : Wf8 n R a := ⟨⟨hs 0 (by decide), by omega⟩, by rw [e]; rfl, ⟨hs 1 (by decide), by omega⟩⟩
theorem wf1_row {n a : Nat} {R : Nat → Nat → Option Nat} (hs : SHs a [(0, 1), (1, 40), (1, 40), (1, 4), (1, 4), (1, 16)]) (hn : a + 6 ≤ n) (e : R a = TR1 a) : Wf1 n R a := ⟨⟨hs 0 (by decide), by omega⟩, by rw [e]; rfl, ⟨hs 1 (by decide), by omega⟩, by rw [e]; rfl, ⟨hs 2 (by decide), by omega⟩, by rw [e]; rfl, ⟨hs 3 (by decide), by omega⟩, by rw [e]; rfl, ⟨hs 4 (by decide), by omega⟩, by rw [e]; rfl, ⟨hs 5 (by decide), by omega⟩⟩
theorem wf5_row {n a : Nat} {R : Nat → Nat → Option Nat} (hs : SHs a [(0, 5), (1, 420), (1, 4), (1, 9), (1, 24), (1, 24)]) (hn : a + 6 ≤ n) (e : R a = TR5 a) : Wf5 n R a := ⟨⟨hs 0 (by decide), by omega⟩, by rw [e]; rfl, ⟨hs 1 (by decide), by omega⟩, by rw [e]; rfl, ⟨hs 2 (by decide), by omega⟩, by rw [e]; rfl, ⟨hs 3 (by decide), by omega⟩, by rw [e]; rfl, ⟨hs 4 (by decide), by omega⟩, by rw [e]; rfl, ⟨hs 5 (by decide), by omega⟩⟩
theorem wf3_row {n a : Nat} {R : Nat → Nat → Option Nat} (hs : SHs a [(0, 3), (1, 3)]) (hn : a + 2 ≤ n) (e : R a = TR3 a) : Wf3 n R a := ⟨⟨hs 0 (by decide), by omega⟩, by rw [e]; rfl, ⟨hs 1 (by decide), by omega⟩⟩
theorem wf4_row {n a : Nat} {R : Nat → Nat → Option Nat} (hs : SHs a [(0, 4), (1, 20), (1, 20), (1, 20), (0, 1), (1, 40), (1, 40), (1, 4), (1, 4), (1, 16), (3, 41), (1, 1640), (1, 100)]) (hn : a + 13 ≤ n) (e : R a = TR4 a) (e2 : R (a + 4) = TR1 (a + 4)) : Wf4 n R a := ⟨⟨hs 0 (by decide), by omega⟩, by rw [e]; rfl, ⟨hs 1 (by decide), by omega⟩, by rw [e]; rfl, ⟨hs 2 (by decide), by omega⟩, by rw [e]; rfl, ⟨hs 3 (by decide), by omega⟩, by rw [e]; rfl, wf1_row (SHs.sub (i := 4) hs (by decide)) (by omega) e2, by rw [e]; rfl, ⟨hs 10 (by decide), by omega⟩, by rw [e]; rfl, ⟨hs 11 (by decide), by omega⟩, by rw [e]; rfl, ⟨hs 12 (by decide), by omega⟩⟩
theorem wf7_row {n a : Nat} {R : Nat → Nat → Option Nat} (hs : SHs a [(0, 7), (1, 40), (1, 40), (1, 4), (1, 4), (1, 6), (1, 6), (1, 6), (1, 6), (0, 5), (1, 420), (1, 4), (1, 9), (1, 24), (1, 24)]) (hn : a + 15 ≤ n) (e : R a = TR7 a) (e2 : R (a + 9) = TR5 (a + 9)) : Wf7 n R a := ⟨⟨hs 0 (by decide), by omega⟩, by rw [e]; rfl, ⟨hs 1 (by decide), by omega⟩, by rw [e]; rfl, ⟨hs 2 (by decide), by omega⟩, by rw [e]; rfl, ⟨hs 3 (by decide), by omega⟩, by rw [e]; rfl, ⟨hs 4 (by decide), by omega⟩, by rw [e]; rfl, ⟨hs 5 (by decide), by omega⟩, by rw [e]; rfl, ⟨hs 6 (by decide), by omega⟩, by rw [e]; rfl, ⟨hs 7 (by decide), by omega⟩, by rw [e]; rfl, ⟨hs 8 (by decide), by omega⟩, by rw [e]; rfl, wf5_row (SHs.sub (i := 9) hs (by decide)) (by omega) e2⟩
def TR11 : Nat → Option Nat := (va_up (va_up (va_up (va_up (va_up (va_up (va_up (va_up (va_up (va_up (va_up (va_up (va_up (va_up (fun _ => none) 0 (some 1)) 1 (some 3)) 2 (some 8)) 3 (some 10)) 4 (some 13)) 5 (some 15)) 6 (some 21)) 7 (some 27)) 8 (some 209)) 9 (some 210)) 10 (some 211)) 11 (some 224)) 12 (some 226)) 13 (some 241))
set_option maxRecDepth 100000 in
set_option maxHeartbeats 4000000 in
theorem cx_of {n : Nat} {R : Nat → Nat → Option Nat} (hn : 274 ≤ n) (t0 : R 0 = TR11) (t1 : R (1) = TR9 1) (t3 : R (3) = TR10 3) (t8 : R (8) = TR2 8) (t10 : R (10) = TR0 10) (t13 : R (13) = TR8 13) (t15 : R (15) = TR1 15) (t21 : R (21) = TR1 21) (t27 : R (27) = TR6 27) (t28 : R (28) = rgI 29 30) (t29 : ∀ j, j < 30 → R (29 + 6 * j) = TR1 (29 + 6 * j)) (t211 : R (211) = TR4 211) (t215 : R (215) = TR1 215) (t224 : R (224) = TR3 224) (t226 : R (226) = TR7 226) (t235 : R (235) = TR5 235) (t241 : R (241) = TR7 241) (t250 : R (250) = TR5 250) (t209 : R 209 = rgI 256 3) (t256 : ∀ j, j < 3 → R (256 + 6 * j) = TR1 (256 + 6 * j)) : CX n R 226 241 := by
  have hg : ∀ j, j < 30 → SHs (29 + 6 * j) [(0, 1), (1, 40), (1, 40), (1, 4), (1, 4), (1, 16)] := by decide +kernel
  have hg3 : ∀ j, j < 3 → SHs (256 + 6 * j) [(0, 1), (1, 40), (1, 40), (1, 4), (1, 4), (1, 16)] := by decide +kernel
  exact ⟨⟨⟨by decide, by omega⟩, by rw [t0]; rfl, wf9_row (by decide +kernel) (by omega) t1, by rw [t0]; rfl, wf10_row (by decide +kernel) (by omega) t3, by rw [t0]; rfl, wf2_row (by decide +kernel) (by omega) t8, by rw [t0]; rfl, wf0_row (by decide +kernel) (by omega) t10, by rw [t0]; rfl, wf8_row (by decide +kernel) (by omega) t13, by rw [t0]; rfl, wf1_row (by decide +kernel) (by omega) t15, by rw [t0]; rfl, wf1_row (by decide +kernel) (by omega) t21, by rw [t0]; rfl, ⟨⟨by decide +kernel, by omega⟩, by rw [t27]; rfl, ⟨by decide +kernel, by omega⟩, fun j hj => ⟨by rw [show R (27 + 1) = rgI 29 30 from t28]; exact if_pos hj, wf1_row (hg j hj) (by omega) (t29 j hj)⟩⟩, by rw [t0]; rfl, ⟨by decide +kernel, by omega⟩, by rw [t0]; rfl, ⟨by decide +kernel, by omega⟩, by rw [t0]; rfl, wf4_row (by decide +kernel) (by omega) t211 t215, by rw [t0]; rfl, wf3_row (by decide +kernel) (by omega) t224, fun j hj => ⟨by rw [t209]; exact if_pos hj, wf1_row (hg3 j hj) (by omega) (t256 j hj)⟩, wf7_row (by decide +kernel) (by omega) t226 t235, wf7_row (by decide +kernel) (by omega) t241 t250⟩, by rw [t0]; rfl, by rw [t0]; rfl, Or.inl ⟨rfl, rfl⟩⟩
theorem PzC.keep {m m' : Me} {dr : Nat} (h : PzC m dr) (g : ∀ x, dr ≤ x → x ≤ dr + 14 → gI m' x = gI m x) : PzC m' dr := by
  obtain ⟨a, b, c, d, e⟩ := h
  refine ⟨?_, ?_, ?_, ?_, e.of (g _ (by omega) (by omega)) (g _ (by omega) (by omega)) (g _ (by omega) (by omega)) rfl⟩
  · rw [g _ (by omega) (by omega)]; exact a
  · rw [g _ (by omega) (by omega)]; exact b
  · rw [g _ (by omega) (by omega)]; exact c
  · rw [g _ (by omega) (by omega), g _ (by omega) (by omega)]; exact d
theorem laZ : laO drZ := ⟨fun c _ h => absurd h (Nat.not_lt_zero _), fun b h => absurd h (Nat.not_lt_zero b)⟩
theorem CnZ : CnW (fun _ => 0) drZ := ⟨Nat.zero_le _, drZ_ok.2⟩
theorem PlC_z {m : Me} (h : PzC m 226) : PlC m 226 (plD drZ) := by
  have h2 := (h.of10 (r := fun _ => -1) (by decide)).dr (by rw [gI_s]) (by rw [gI_s])
  exact ((h2.mn (by decide)).pl drZ_ok.1 CnZ laZ).keep (fun x a b _ => (gI_n (by omega)).symm)
/-- the class's object as it is made -/
def MkC (m : Me) : Prop := m.1 = 274 ∧ (∀ n R', 274 ≤ n → (∀ x, x < 274 → R' x = gR m x) → CX n R' 226 241) ∧ PzC m 226 ∧ (∃ m0, gw m 15 = bgS m0 226 ∧ PzC m0 226) ∧ (∀ x, x ≠ 3 → ¬ (15 ≤ x ∧ x ≤ 20) → ¬ (226 ≤ x ∧ x ≤ 255) → gI m x = fun _ => 0) ∧ gI m 3 7 = -1 ∧ gJ m 4 = kwRow 124 ∧ (∀ x, x ≠ 4 → gJ m x = fun _ => 0) ∧ Zr 274 (gI m) (gJ m) (gR m)
set_option maxRecDepth 100000 in
set_option maxHeartbeats 16000000 in
/-- the class's object is made -/
theorem ev_i11 {I : Nat → Nat → Int32} {J : Nat → Nat → Int64} {R : Nat → Nat → Option Nat} (hz : Zr 0 I J R) : Ev mX11_init [.ref 0] (1, I, J, va_up R 0 (fun _ => none)) (fun o m' => o = none ∧ MkC m') := by
  refine ⟨plmX11_init, nle rfl, ?_⟩
  have hzI : ∀ x, I x = fun _ => 0 := fun x => (hz x (Nat.zero_le _)).1
  have hzJ : ∀ x, J x = fun _ => 0 := fun x => (hz x (Nat.zero_le _)).2.1
  refine go_aload_n (q := 0) (i := 0) rfl rfl dX11_init_0 ?_
  refine go_obj (wg1 25 rfl rfl) okObj ⟨nle rfl, nle rfl⟩ dX11_init_1 ?_
  refine go_aload_n (q := 0) (i := 0) rfl rfl dX11_init_4 ?_
  refine go_newE (ci := 9) (Zr.up (hz.le (by omega)) (by omega)) (wg1 28 rfl rfl) (by decide) (wg1 29 rfl rfl) (wg1 2 rfl rfl) (by decide +kernel) ⟨nle rfl, nle rfl⟩ dX11_init_5 ?_
  refine go_dup rfl dX11_init_8 ?_
  refine go_callI okmX9_init lmX11_11 ⟨nle rfl, nle rfl⟩ rfl (ev_i9 (Zr.up (hz.le (by omega)) (by omega)) (by decide +kernel)) npmX9_init rfl (nle rfl) ⟨nle rfl, nle rfl⟩ dX11_init_9 ?_
  rintro _ _ ⟨rfl, rfl⟩
  refine go_cN (c' := 2) (z' := 2002) rfl rfl ?_
  refine go_own (a := 0) (r := (fun _ => none)) (by rw [up_n (by decide)]; exact up_s) (fun Y1 hY => ?_)
  have t1 : Y1 (1) = TR9 1 := by rw [hY]; exact up_s
  have hz : Zr 3 I J Y1 := by rw [hY]; exact (Zr.up (Zr.up (hz.le (by omega)) (by omega)) (by omega))
  clear hY
  refine go_putE lf11_12 rfl fo11_12 (by decide +kernel) (by omega) dX11_init_12 ?_
  refine go_aload_n (q := 0) (i := 0) rfl rfl dX11_init_15 ?_
  refine go_newE (ci := 10) (Zr.up (hz.le (by omega)) (by omega)) (wg1 44 rfl rfl) (by decide) (wg1 45 rfl rfl) (wg1 3 rfl rfl) (by decide +kernel) ⟨nle rfl, nle rfl⟩ dX11_init_16 ?_
  refine go_dup rfl dX11_init_19 ?_
  refine go_callI okmX10_init lmX11_18 ⟨nle rfl, nle rfl⟩ rfl (ev_i10 (Zr.up (hz.le (by omega)) (by omega)) (hz 3 (by omega)).1) npmX10_init rfl (nle rfl) ⟨nle rfl, nle rfl⟩ dX11_init_20 ?_
  rintro _ _ ⟨rfl, rfl⟩
  refine go_cN (c' := 7) (z' := 3236) rfl rfl ?_
  generalize hIE : va_up I 3 (upd (I 3) 7 (-1)) = I1
  generalize hJE : va_up J 4 (kwRow 124) = J1
  refine go_own (a := 0) (r := (va_up (fun _ => none) 0 (some 1))) (by rw [up_n (by decide)]; exact up_s) (fun Y2 hY => ?_)
  have t1 : Y2 (1) = TR9 1 := by rw [hY, up_n (by omega), up_n (by omega)]; exact t1
  have t3 : Y2 (3) = TR10 3 := by rw [hY]; exact up_s
  have hz : Zr 8 I1 J1 Y2 := fun x hx => ⟨by rw [← hIE, up_n (by omega)]; exact (hz x (by omega)).1, by rw [← hJE, up_n (by omega)]; exact (hz x (by omega)).2.1, by rw [hY]; exact ((Zr.up (Zr.up (hz.le (by omega)) (by omega)) (by omega)) x hx).2.2⟩
  clear hY
  refine go_putE lf11_19 rfl fo11_19 (by decide +kernel) (by omega) dX11_init_23 ?_
  refine go_aload_n (q := 0) (i := 0) rfl rfl dX11_init_26 ?_
  refine go_newE (ci := 2) (Zr.up (hz.le (by omega)) (by omega)) (wg1 134 rfl rfl) (by decide) (wg1 135 rfl rfl) (wg1 8 rfl rfl) (by decide +kernel) ⟨nle rfl, nle rfl⟩ dX11_init_27 ?_
  refine go_dup rfl dX11_init_30 ?_
  refine go_callI okmX2_init lmX11_25 ⟨nle rfl, nle rfl⟩ rfl (ev_i2 (Zr.up (hz.le (by omega)) (by omega)) (by decide +kernel)) npmX2_init rfl (nle rfl) ⟨nle rfl, nle rfl⟩ dX11_init_31 ?_
  rintro _ _ ⟨rfl, rfl⟩
  refine go_cN (c' := 9) (z' := 3242) rfl rfl ?_
  refine go_own (a := 0) (r := (va_up (va_up (fun _ => none) 0 (some 1)) 1 (some 3))) (by rw [up_n (by decide)]; exact up_s) (fun Y3 hY => ?_)
  have t1 : Y3 (1) = TR9 1 := by rw [hY, up_n (by omega), up_n (by omega)]; exact t1
  have t3 : Y3 (3) = TR10 3 := by rw [hY, up_n (by omega), up_n (by omega)]; exact t3
  have t8 : Y3 (8) = TR2 8 := by rw [hY]; exact up_s
  have hz : Zr 10 I1 J1 Y3 := by rw [hY]; exact (Zr.up (Zr.up (hz.le (by omega)) (by omega)) (by omega))
  clear hY
  refine go_putE lf11_26 rfl fo11_26 (by decide +kernel) (by omega) dX11_init_34 ?_
  refine go_aload_n (q := 0) (i := 0) rfl rfl dX11_init_37 ?_
  refine go_newE (ci := 0) (Zr.up (hz.le (by omega)) (by omega)) (wg1 147 rfl rfl) (by decide) (wg1 148 rfl rfl) (wg1 9 rfl rfl) (by decide +kernel) ⟨nle rfl, nle rfl⟩ dX11_init_38 ?_
  refine go_dup rfl dX11_init_41 ?_
  refine go_callI okmX0_init lmX11_32 ⟨nle rfl, nle rfl⟩ rfl (ev_i0 (Zr.up (hz.le (by omega)) (by omega)) (by decide +kernel)) npmX0_init rfl (nle rfl) ⟨nle rfl, nle rfl⟩ dX11_init_42 ?_
  rintro _ _ ⟨rfl, rfl⟩
  refine go_cN (c' := 12) (z' := 3257) rfl rfl ?_
  refine go_own (a := 0) (r := (va_up (va_up (va_up (fun _ => none) 0 (some 1)) 1 (some 3)) 2 (some 8))) (by rw [up_n (by decide)]; exact up_s) (fun Y4 hY => ?_)
  have t1 : Y4 (1) = TR9 1 := by rw [hY, up_n (by omega), up_n (by omega)]; exact t1
  have t3 : Y4 (3) = TR10 3 := by rw [hY, up_n (by omega), up_n (by omega)]; exact t3
  have t8 : Y4 (8) = TR2 8 := by rw [hY, up_n (by omega), up_n (by omega)]; exact t8
  have t10 : Y4 (10) = TR0 10 := by rw [hY]; exact up_s
  have hz : Zr 13 I1 J1 Y4 := by rw [hY]; exact (Zr.up (Zr.up (hz.le (by omega)) (by omega)) (by omega))
  clear hY
  refine go_putE lf11_33 rfl fo11_33 (by decide +kernel) (by omega) dX11_init_45 ?_
  refine go_aload_n (q := 0) (i := 0) rfl rfl dX11_init_48 ?_
  refine go_newE (ci := 8) (Zr.up (hz.le (by omega)) (by omega)) (wg1 169 rfl rfl) (by decide) (wg1 170 rfl rfl) (wg1 10 rfl rfl) (by decide +kernel) ⟨nle rfl, nle rfl⟩ dX11_init_49 ?_
  refine go_dup rfl dX11_init_52 ?_
  refine go_callI okmX8_init lmX11_39 ⟨nle rfl, nle rfl⟩ rfl (ev_i8 (Zr.up (hz.le (by omega)) (by omega)) (by decide +kernel)) npmX8_init rfl (nle rfl) ⟨nle rfl, nle rfl⟩ dX11_init_53 ?_
  rintro _ _ ⟨rfl, rfl⟩
  refine go_cN (c' := 14) (z' := 3298) rfl rfl ?_
  refine go_own (a := 0) (r := (va_up (va_up (va_up (va_up (fun _ => none) 0 (some 1)) 1 (some 3)) 2 (some 8)) 3 (some 10))) (by rw [up_n (by decide)]; exact up_s) (fun Y5 hY => ?_)
  have t1 : Y5 (1) = TR9 1 := by rw [hY, up_n (by omega), up_n (by omega)]; exact t1
  have t3 : Y5 (3) = TR10 3 := by rw [hY, up_n (by omega), up_n (by omega)]; exact t3
  have t8 : Y5 (8) = TR2 8 := by rw [hY, up_n (by omega), up_n (by omega)]; exact t8
  have t10 : Y5 (10) = TR0 10 := by rw [hY, up_n (by omega), up_n (by omega)]; exact t10
  have t13 : Y5 (13) = TR8 13 := by rw [hY]; exact up_s
  have hz : Zr 15 I1 J1 Y5 := by rw [hY]; exact (Zr.up (Zr.up (hz.le (by omega)) (by omega)) (by omega))
  clear hY
  refine go_putE lf11_40 rfl fo11_40 (by decide +kernel) (by omega) dX11_init_56 ?_
  refine go_aload_n (q := 0) (i := 0) rfl rfl dX11_init_59 ?_
  refine go_newE (ci := 1) (Zr.up (hz.le (by omega)) (by omega)) (wg1 179 rfl rfl) (by decide) (wg1 180 rfl rfl) (wg1 11 rfl rfl) (by decide +kernel) ⟨nle rfl, nle rfl⟩ dX11_init_60 ?_
  refine go_dup rfl dX11_init_63 ?_
  refine go_callI okmX1_init lmX11_46 ⟨nle rfl, nle rfl⟩ rfl (ev_i1 (Zr.up (hz.le (by omega)) (by omega)) (by decide +kernel)) npmX1_init rfl (nle rfl) ⟨nle rfl, nle rfl⟩ dX11_init_64 ?_
  rintro _ _ ⟨rfl, rfl⟩
  refine go_cN (c' := 20) (z' := 3408) rfl rfl ?_
  refine go_own (a := 0) (r := (va_up (va_up (va_up (va_up (va_up (fun _ => none) 0 (some 1)) 1 (some 3)) 2 (some 8)) 3 (some 10)) 4 (some 13))) (by rw [up_n (by decide)]; exact up_s) (fun Y6 hY => ?_)
  have t1 : Y6 (1) = TR9 1 := by rw [hY, up_n (by omega), up_n (by omega)]; exact t1
  have t3 : Y6 (3) = TR10 3 := by rw [hY, up_n (by omega), up_n (by omega)]; exact t3
  have t8 : Y6 (8) = TR2 8 := by rw [hY, up_n (by omega), up_n (by omega)]; exact t8
  have t10 : Y6 (10) = TR0 10 := by rw [hY, up_n (by omega), up_n (by omega)]; exact t10
  have t13 : Y6 (13) = TR8 13 := by rw [hY, up_n (by omega), up_n (by omega)]; exact t13
  have t15 : Y6 (15) = TR1 15 := by rw [hY]; exact up_s
  have hz : Zr 21 I1 J1 Y6 := by rw [hY]; exact (Zr.up (Zr.up (hz.le (by omega)) (by omega)) (by omega))
  clear hY
  refine go_putE lf11_47 rfl fo11_47 (by decide +kernel) (by omega) dX11_init_67 ?_
  refine go_aload_n (q := 0) (i := 0) rfl rfl dX11_init_70 ?_
  refine go_newE (ci := 1) (Zr.up (hz.le (by omega)) (by omega)) (wg1 179 rfl rfl) (by decide) (wg1 180 rfl rfl) (wg1 11 rfl rfl) (by decide +kernel) ⟨nle rfl, nle rfl⟩ dX11_init_71 ?_
  refine go_dup rfl dX11_init_74 ?_
  refine go_callI okmX1_init lmX11_46 ⟨nle rfl, nle rfl⟩ rfl (ev_i1 (Zr.up (hz.le (by omega)) (by omega)) (by decide +kernel)) npmX1_init rfl (nle rfl) ⟨nle rfl, nle rfl⟩ dX11_init_75 ?_
  rintro _ _ ⟨rfl, rfl⟩
  refine go_cN (c' := 26) (z' := 3518) rfl rfl ?_
  refine go_own (a := 0) (r := (va_up (va_up (va_up (va_up (va_up (va_up (fun _ => none) 0 (some 1)) 1 (some 3)) 2 (some 8)) 3 (some 10)) 4 (some 13)) 5 (some 15))) (by rw [up_n (by decide)]; exact up_s) (fun Y7 hY => ?_)
  have t1 : Y7 (1) = TR9 1 := by rw [hY, up_n (by omega), up_n (by omega)]; exact t1
  have t3 : Y7 (3) = TR10 3 := by rw [hY, up_n (by omega), up_n (by omega)]; exact t3
  have t8 : Y7 (8) = TR2 8 := by rw [hY, up_n (by omega), up_n (by omega)]; exact t8
  have t10 : Y7 (10) = TR0 10 := by rw [hY, up_n (by omega), up_n (by omega)]; exact t10
  have t13 : Y7 (13) = TR8 13 := by rw [hY, up_n (by omega), up_n (by omega)]; exact t13
  have t15 : Y7 (15) = TR1 15 := by rw [hY, up_n (by omega), up_n (by omega)]; exact t15
  have t21 : Y7 (21) = TR1 21 := by rw [hY]; exact up_s
  have hz : Zr 27 I1 J1 Y7 := by rw [hY]; exact (Zr.up (Zr.up (hz.le (by omega)) (by omega)) (by omega))
  clear hY
  refine go_putE lf11_51 rfl fo11_51 (by decide +kernel) (by omega) dX11_init_78 ?_
  refine go_aload_n (q := 0) (i := 0) rfl rfl dX11_init_81 ?_
  refine go_newE (ci := 6) (Zr.up (hz.le (by omega)) (by omega)) (wg1 214 rfl rfl) (by decide) (wg1 215 rfl rfl) (wg1 12 rfl rfl) (by decide +kernel) ⟨nle rfl, nle rfl⟩ dX11_init_82 ?_
  refine go_dup rfl dX11_init_85 ?_
  refine go_callI okmX6_init lmX11_56 ⟨nle rfl, nle rfl⟩ rfl (ev_i6 (Zr.up (hz.le (by omega)) (by omega)) (by decide +kernel) (by decide +kernel)) npmX6_init rfl (nle rfl) ⟨nle rfl, nle rfl⟩ dX11_init_86 ?_
  rintro _ _ ⟨rfl, rfl⟩
  refine go_cN (c' := 208) (z' := 6851) rfl rfl ?_
  refine go_own (a := 0) (r := (va_up (va_up (va_up (va_up (va_up (va_up (va_up (fun _ => none) 0 (some 1)) 1 (some 3)) 2 (some 8)) 3 (some 10)) 4 (some 13)) 5 (some 15)) 6 (some 21))) (by rw [up_n (by decide), up_n (by decide), rgO_lt (by decide)]; exact up_s) (fun Y8 hY => ?_)
  have t1 : Y8 (1) = TR9 1 := by rw [hY, up_n (by omega), up_n (by omega), rgO_lt (by omega), up_n (by omega)]; exact t1
  have t3 : Y8 (3) = TR10 3 := by rw [hY, up_n (by omega), up_n (by omega), rgO_lt (by omega), up_n (by omega)]; exact t3
  have t8 : Y8 (8) = TR2 8 := by rw [hY, up_n (by omega), up_n (by omega), rgO_lt (by omega), up_n (by omega)]; exact t8
  have t10 : Y8 (10) = TR0 10 := by rw [hY, up_n (by omega), up_n (by omega), rgO_lt (by omega), up_n (by omega)]; exact t10
  have t13 : Y8 (13) = TR8 13 := by rw [hY, up_n (by omega), up_n (by omega), rgO_lt (by omega), up_n (by omega)]; exact t13
  have t15 : Y8 (15) = TR1 15 := by rw [hY, up_n (by omega), up_n (by omega), rgO_lt (by omega), up_n (by omega)]; exact t15
  have t21 : Y8 (21) = TR1 21 := by rw [hY, up_n (by omega), up_n (by omega), rgO_lt (by omega), up_n (by omega)]; exact t21
  have t27 : Y8 (27) = TR6 27 := by rw [hY]; exact up_s
  have t28 : Y8 (28) = rgI 29 30 := by rw [hY, up_n (by decide)]; exact up_s
  have t29 : ∀ j, j < 30 → Y8 (29 + 6 * j) = TR1 (29 + 6 * j) := fun j hj => by rw [hY, up_n (by omega), up_n (by omega)]; exact rgO_at hj
  have hz : Zr 209 I1 J1 Y8 := by rw [hY]; exact (Zr.up (Zr.up ((Zr.rg (n := 28) (a := 29) (i := 30) (Zr.up (hz.le (by omega)) (by omega)) (by omega)).le (by omega)) (by omega)) (by omega))
  clear hY
  refine go_putE lf11_57 rfl fo11_57 (by decide +kernel) (by omega) dX11_init_89 ?_
  refine go_aload_n (q := 0) (i := 0) rfl rfl dX11_init_92 ?_
  refine go_iconst (v := nI 3) (by decide) dX11_init_93 ?_
  refine go_nwq (N := 3) (Zr.up (hz.le (by omega)) (by omega)) (wg1 179 rfl rfl) (by decide +kernel) (by decide) ⟨nle rfl, nle rfl⟩ dX11_init_94 ?_
  have t209 : Y8 209 = fun _ => none := (hz 209 (by omega)).2.2
  refine go_putE lf11_61 rfl fo11_61 (by decide +kernel) (by omega) dX11_init_97 ?_
  refine go_aload_n (q := 0) (i := 0) rfl rfl dX11_init_100 ?_
  refine go_iconst (v := nI 3) (by decide) dX11_init_101 ?_
  refine go_nwaZ (N := 3) (Zr.up (hz.le (by omega)) (by omega)) (by decide +kernel) (by decide) ⟨nle rfl, nle rfl⟩ dX11_init_102 ?_
  refine go_putE lf11_65 rfl fo11_65 (by decide +kernel) (by omega) dX11_init_104 ?_
  refine go_aload_n (q := 0) (i := 0) rfl rfl dX11_init_107 ?_
  refine go_newE (ci := 4) (Zr.up (hz.le (by omega)) (by omega)) (wg1 234 rfl rfl) (by decide) (wg1 235 rfl rfl) (wg1 13 rfl rfl) (by decide +kernel) ⟨nle rfl, nle rfl⟩ dX11_init_108 ?_
  refine go_dup rfl dX11_init_111 ?_
  refine go_callI okmX4_init lmX11_71 ⟨nle rfl, nle rfl⟩ rfl (ev_i4 (Zr.up (hz.le (by omega)) (by omega)) (by decide +kernel)) npmX4_init rfl (nle rfl) ⟨nle rfl, nle rfl⟩ dX11_init_112 ?_
  rintro _ _ ⟨rfl, rfl⟩
  refine go_cN (c' := 223) (z' := 8816) rfl rfl ?_
  refine go_own (a := 0) (r := (va_up (va_up (va_up (va_up (va_up (va_up (va_up (va_up (va_up (va_up (fun _ => none) 0 (some 1)) 1 (some 3)) 2 (some 8)) 3 (some 10)) 4 (some 13)) 5 (some 15)) 6 (some 21)) 7 (some 27)) 8 (some 209)) 9 (some 210))) (by rw [up_n (by decide), up_n (by decide)]; exact up_s) (fun Y9 hY => ?_)
  have t1 : Y9 (1) = TR9 1 := by rw [hY, up_n (by omega), up_n (by omega), up_n (by omega)]; exact t1
  have t3 : Y9 (3) = TR10 3 := by rw [hY, up_n (by omega), up_n (by omega), up_n (by omega)]; exact t3
  have t8 : Y9 (8) = TR2 8 := by rw [hY, up_n (by omega), up_n (by omega), up_n (by omega)]; exact t8
  have t10 : Y9 (10) = TR0 10 := by rw [hY, up_n (by omega), up_n (by omega), up_n (by omega)]; exact t10
  have t13 : Y9 (13) = TR8 13 := by rw [hY, up_n (by omega), up_n (by omega), up_n (by omega)]; exact t13
  have t15 : Y9 (15) = TR1 15 := by rw [hY, up_n (by omega), up_n (by omega), up_n (by omega)]; exact t15
  have t21 : Y9 (21) = TR1 21 := by rw [hY, up_n (by omega), up_n (by omega), up_n (by omega)]; exact t21
  have t27 : Y9 (27) = TR6 27 := by rw [hY, up_n (by omega), up_n (by omega), up_n (by omega)]; exact t27
  have t28 : Y9 (28) = rgI 29 30 := by rw [hY, up_n (by omega), up_n (by omega), up_n (by omega)]; exact t28
  have t29 : ∀ j, j < 30 → Y9 (29 + 6 * j) = TR1 (29 + 6 * j) := fun j hj => by rw [hY, up_n (by omega), up_n (by omega), up_n (by omega)]; exact t29 j hj
  have t209 : Y9 (209) = fun _ => none := by rw [hY, up_n (by omega), up_n (by omega), up_n (by omega)]; exact t209
  have t211 : Y9 (211) = TR4 211 := by rw [hY]; exact up_s
  have t215 : Y9 (215) = TR1 215 := by rw [hY, up_n (by decide)]; exact up_s
  have hz : Zr 224 I1 J1 Y9 := by rw [hY]; exact (Zr.up (Zr.up (Zr.up (hz.le (by omega)) (by omega)) (by omega)) (by omega))
  clear hY
  refine go_putE lf11_72 rfl fo11_72 (by decide +kernel) (by omega) dX11_init_115 ?_
  refine go_aload_n (q := 0) (i := 0) rfl rfl dX11_init_118 ?_
  refine go_newE (ci := 3) (Zr.up (hz.le (by omega)) (by omega)) (wg2 29 rfl rfl) (by decide) (wg2 30 rfl rfl) (wg1 14 rfl rfl) (by decide +kernel) ⟨nle rfl, nle rfl⟩ dX11_init_119 ?_
  refine go_dup rfl dX11_init_122 ?_
  refine go_callI okmX3_init lmX11_78 ⟨nle rfl, nle rfl⟩ rfl (ev_i3 (Zr.up (hz.le (by omega)) (by omega)) (by decide +kernel)) npmX3_init rfl (nle rfl) ⟨nle rfl, nle rfl⟩ dX11_init_123 ?_
  rintro _ _ ⟨rfl, rfl⟩
  refine go_cN (c' := 225) (z' := 8823) rfl rfl ?_
  refine go_own (a := 0) (r := (va_up (va_up (va_up (va_up (va_up (va_up (va_up (va_up (va_up (va_up (va_up (fun _ => none) 0 (some 1)) 1 (some 3)) 2 (some 8)) 3 (some 10)) 4 (some 13)) 5 (some 15)) 6 (some 21)) 7 (some 27)) 8 (some 209)) 9 (some 210)) 10 (some 211))) (by rw [up_n (by decide)]; exact up_s) (fun Y10 hY => ?_)
  have t1 : Y10 (1) = TR9 1 := by rw [hY, up_n (by omega), up_n (by omega)]; exact t1
  have t3 : Y10 (3) = TR10 3 := by rw [hY, up_n (by omega), up_n (by omega)]; exact t3
  have t8 : Y10 (8) = TR2 8 := by rw [hY, up_n (by omega), up_n (by omega)]; exact t8
  have t10 : Y10 (10) = TR0 10 := by rw [hY, up_n (by omega), up_n (by omega)]; exact t10
  have t13 : Y10 (13) = TR8 13 := by rw [hY, up_n (by omega), up_n (by omega)]; exact t13
  have t15 : Y10 (15) = TR1 15 := by rw [hY, up_n (by omega), up_n (by omega)]; exact t15
  have t21 : Y10 (21) = TR1 21 := by rw [hY, up_n (by omega), up_n (by omega)]; exact t21
  have t27 : Y10 (27) = TR6 27 := by rw [hY, up_n (by omega), up_n (by omega)]; exact t27
  have t28 : Y10 (28) = rgI 29 30 := by rw [hY, up_n (by omega), up_n (by omega)]; exact t28
  have t29 : ∀ j, j < 30 → Y10 (29 + 6 * j) = TR1 (29 + 6 * j) := fun j hj => by rw [hY, up_n (by omega), up_n (by omega)]; exact t29 j hj
  have t209 : Y10 (209) = fun _ => none := by rw [hY, up_n (by omega), up_n (by omega)]; exact t209
  have t211 : Y10 (211) = TR4 211 := by rw [hY, up_n (by omega), up_n (by omega)]; exact t211
  have t215 : Y10 (215) = TR1 215 := by rw [hY, up_n (by omega), up_n (by omega)]; exact t215
  have t224 : Y10 (224) = TR3 224 := by rw [hY]; exact up_s
  have hz : Zr 226 I1 J1 Y10 := by rw [hY]; exact (Zr.up (Zr.up (hz.le (by omega)) (by omega)) (by omega))
  clear hY
  refine go_putE lf11_79 rfl fo11_79 (by decide +kernel) (by omega) dX11_init_126 ?_
  refine go_aload_n (q := 0) (i := 0) rfl rfl dX11_init_129 ?_
  refine go_newE (ci := 7) (Zr.up (hz.le (by omega)) (by omega)) (wg2 48 rfl rfl) (by decide) (wg2 49 rfl rfl) (wg1 15 rfl rfl) (by decide +kernel) ⟨nle rfl, nle rfl⟩ dX11_init_130 ?_
  refine go_dup rfl dX11_init_133 ?_
  refine go_callI okmX7_init lmX11_85 ⟨nle rfl, nle rfl⟩ rfl (ev_i7 (Or.inl rfl) (Zr.up (hz.le (by omega)) (by omega))) npmX7_init rfl (nle rfl) ⟨nle rfl, nle rfl⟩ dX11_init_134 ?_
  rintro _ _ ⟨rfl, I226, rfl, hI226, hP226⟩
  refine go_cN (c' := 240) (z' := 9440) rfl rfl ?_
  refine go_own (a := 0) (r := (va_up (va_up (va_up (va_up (va_up (va_up (va_up (va_up (va_up (va_up (va_up (va_up (fun _ => none) 0 (some 1)) 1 (some 3)) 2 (some 8)) 3 (some 10)) 4 (some 13)) 5 (some 15)) 6 (some 21)) 7 (some 27)) 8 (some 209)) 9 (some 210)) 10 (some 211)) 11 (some 224))) (by rw [up_n (by decide), up_n (by decide)]; exact up_s) (fun Y11 hY => ?_)
  have t1 : Y11 (1) = TR9 1 := by rw [hY, up_n (by omega), up_n (by omega), up_n (by omega)]; exact t1
  have t3 : Y11 (3) = TR10 3 := by rw [hY, up_n (by omega), up_n (by omega), up_n (by omega)]; exact t3
  have t8 : Y11 (8) = TR2 8 := by rw [hY, up_n (by omega), up_n (by omega), up_n (by omega)]; exact t8
  have t10 : Y11 (10) = TR0 10 := by rw [hY, up_n (by omega), up_n (by omega), up_n (by omega)]; exact t10
  have t13 : Y11 (13) = TR8 13 := by rw [hY, up_n (by omega), up_n (by omega), up_n (by omega)]; exact t13
  have t15 : Y11 (15) = TR1 15 := by rw [hY, up_n (by omega), up_n (by omega), up_n (by omega)]; exact t15
  have t21 : Y11 (21) = TR1 21 := by rw [hY, up_n (by omega), up_n (by omega), up_n (by omega)]; exact t21
  have t27 : Y11 (27) = TR6 27 := by rw [hY, up_n (by omega), up_n (by omega), up_n (by omega)]; exact t27
  have t28 : Y11 (28) = rgI 29 30 := by rw [hY, up_n (by omega), up_n (by omega), up_n (by omega)]; exact t28
  have t29 : ∀ j, j < 30 → Y11 (29 + 6 * j) = TR1 (29 + 6 * j) := fun j hj => by rw [hY, up_n (by omega), up_n (by omega), up_n (by omega)]; exact t29 j hj
  have t209 : Y11 (209) = fun _ => none := by rw [hY, up_n (by omega), up_n (by omega), up_n (by omega)]; exact t209
  have t211 : Y11 (211) = TR4 211 := by rw [hY, up_n (by omega), up_n (by omega), up_n (by omega)]; exact t211
  have t215 : Y11 (215) = TR1 215 := by rw [hY, up_n (by omega), up_n (by omega), up_n (by omega)]; exact t215
  have t224 : Y11 (224) = TR3 224 := by rw [hY, up_n (by omega), up_n (by omega), up_n (by omega)]; exact t224
  have t226 : Y11 (226) = TR7 226 := by rw [hY]; exact up_s
  have t235 : Y11 (235) = TR5 235 := by rw [hY, up_n (by decide)]; exact up_s
  have hz : Zr 241 I226 J1 Y11 := fun x hx => ⟨(hI226 x (by omega)).trans (hz x (by omega)).1, (hz x (by omega)).2.1, by rw [hY]; exact (((Zr.up (Zr.up (Zr.up (hz.le (by omega)) (by omega)) (by omega)) (by omega)) : Zr 241 I1 J1 _) x hx).2.2⟩
  clear hY
  refine go_putE lf11_86 rfl (Or.inl rfl) (by decide +kernel) (by omega) dX11_init_137 ?_
  refine go_aload_n (q := 0) (i := 0) rfl rfl dX11_init_140 ?_
  refine go_newE (ci := 7) (Zr.up (hz.le (by omega)) (by omega)) (wg2 48 rfl rfl) (by decide) (wg2 49 rfl rfl) (wg1 15 rfl rfl) (by decide +kernel) ⟨nle rfl, nle rfl⟩ dX11_init_141 ?_
  refine go_dup rfl dX11_init_144 ?_
  refine go_callI okmX7_init lmX11_85 ⟨nle rfl, nle rfl⟩ rfl (ev_i7 (Or.inr rfl) (Zr.up (hz.le (by omega)) (by omega))) npmX7_init rfl (nle rfl) ⟨nle rfl, nle rfl⟩ dX11_init_145 ?_
  rintro _ _ ⟨rfl, I241, rfl, hI241, hP241⟩
  refine go_cN (c' := 255) (z' := 10057) rfl rfl ?_
  refine go_own (a := 0) (r := (va_up (va_up (va_up (va_up (va_up (va_up (va_up (va_up (va_up (va_up (va_up (va_up (va_up (fun _ => none) 0 (some 1)) 1 (some 3)) 2 (some 8)) 3 (some 10)) 4 (some 13)) 5 (some 15)) 6 (some 21)) 7 (some 27)) 8 (some 209)) 9 (some 210)) 10 (some 211)) 11 (some 224)) 12 (some 226))) (by rw [up_n (by decide), up_n (by decide)]; exact up_s) (fun Y12 hY => ?_)
  have t1 : Y12 (1) = TR9 1 := by rw [hY, up_n (by omega), up_n (by omega), up_n (by omega)]; exact t1
  have t3 : Y12 (3) = TR10 3 := by rw [hY, up_n (by omega), up_n (by omega), up_n (by omega)]; exact t3
  have t8 : Y12 (8) = TR2 8 := by rw [hY, up_n (by omega), up_n (by omega), up_n (by omega)]; exact t8
  have t10 : Y12 (10) = TR0 10 := by rw [hY, up_n (by omega), up_n (by omega), up_n (by omega)]; exact t10
  have t13 : Y12 (13) = TR8 13 := by rw [hY, up_n (by omega), up_n (by omega), up_n (by omega)]; exact t13
  have t15 : Y12 (15) = TR1 15 := by rw [hY, up_n (by omega), up_n (by omega), up_n (by omega)]; exact t15
  have t21 : Y12 (21) = TR1 21 := by rw [hY, up_n (by omega), up_n (by omega), up_n (by omega)]; exact t21
  have t27 : Y12 (27) = TR6 27 := by rw [hY, up_n (by omega), up_n (by omega), up_n (by omega)]; exact t27
  have t28 : Y12 (28) = rgI 29 30 := by rw [hY, up_n (by omega), up_n (by omega), up_n (by omega)]; exact t28
  have t29 : ∀ j, j < 30 → Y12 (29 + 6 * j) = TR1 (29 + 6 * j) := fun j hj => by rw [hY, up_n (by omega), up_n (by omega), up_n (by omega)]; exact t29 j hj
  have t209 : Y12 (209) = fun _ => none := by rw [hY, up_n (by omega), up_n (by omega), up_n (by omega)]; exact t209
  have t211 : Y12 (211) = TR4 211 := by rw [hY, up_n (by omega), up_n (by omega), up_n (by omega)]; exact t211
  have t215 : Y12 (215) = TR1 215 := by rw [hY, up_n (by omega), up_n (by omega), up_n (by omega)]; exact t215
  have t224 : Y12 (224) = TR3 224 := by rw [hY, up_n (by omega), up_n (by omega), up_n (by omega)]; exact t224
  have t226 : Y12 (226) = TR7 226 := by rw [hY, up_n (by omega), up_n (by omega), up_n (by omega)]; exact t226
  have t235 : Y12 (235) = TR5 235 := by rw [hY, up_n (by omega), up_n (by omega), up_n (by omega)]; exact t235
  have t241 : Y12 (241) = TR7 241 := by rw [hY]; exact up_s
  have t250 : Y12 (250) = TR5 250 := by rw [hY, up_n (by decide)]; exact up_s
  have hz : Zr 256 I241 J1 Y12 := fun x hx => ⟨(hI241 x (by omega)).trans (hz x (by omega)).1, (hz x (by omega)).2.1, by rw [hY]; exact (((Zr.up (Zr.up (Zr.up (hz.le (by omega)) (by omega)) (by omega)) (by omega)) : Zr 256 I226 J1 _) x hx).2.2⟩
  clear hY
  refine go_putE lf11_90 rfl (Or.inl rfl) (by decide +kernel) (by omega) dX11_init_148 ?_
  have hg3 : ∀ j, j < 3 → SHs (256 + 6 * j) [(0, 1), (1, 40), (1, 40), (1, 4), (1, 4), (1, 16)] := by decide +kernel
  have key : ∀ i, i ≤ 3 → Go mX11_init (fun o m' => o = none ∧ MkC m') 153 [some (.ref 0), some (.int (nI i))] [] (256 + 6 * i, I241, J1, va_up (va_up (rgO Y12 256 i) 209 (rgI 256 i)) 0 TR11) (255 + 6 * i) (10057 + 110 * i) := by
    refine loop_up 3 ?_ ?_
    · refine go_iload_n (q := 1) (i := 1) rfl rfl dX11_init_153 ?_
      refine go_iconst (v := nI 3) (by decide) dX11_init_154 ?_
      refine gn_ge (by omega) (by omega) (tgt := 177) dX11_init_155 (by decide) (fun h155 => ?_) (fun h155 => by exfalso; omega)
      generalize hRF : va_up (va_up (rgO Y12 256 3) 209 (rgI 256 3)) 0 TR11 = RF
      replace hRF := hRF.symm
      have t0 : RF 0 = TR11 := by rw [hRF]; exact up_s
      have s209 : RF 209 = rgI 256 3 := by rw [hRF, up_n (by decide)]; exact up_s
      have s256 : ∀ j, j < 3 → RF (256 + 6 * j) = TR1 (256 + 6 * j) := fun j hj => by rw [hRF, up_n (by omega), up_n (by omega)]; exact rgO_at hj
      have t1 : RF (1) = TR9 1 := by rw [hRF, up_n (by omega), up_n (by omega), rgO_lt (by omega)]; exact t1
      have t3 : RF (3) = TR10 3 := by rw [hRF, up_n (by omega), up_n (by omega), rgO_lt (by omega)]; exact t3
      have t8 : RF (8) = TR2 8 := by rw [hRF, up_n (by omega), up_n (by omega), rgO_lt (by omega)]; exact t8
      have t10 : RF (10) = TR0 10 := by rw [hRF, up_n (by omega), up_n (by omega), rgO_lt (by omega)]; exact t10
      have t13 : RF (13) = TR8 13 := by rw [hRF, up_n (by omega), up_n (by omega), rgO_lt (by omega)]; exact t13
      have t15 : RF (15) = TR1 15 := by rw [hRF, up_n (by omega), up_n (by omega), rgO_lt (by omega)]; exact t15
      have t21 : RF (21) = TR1 21 := by rw [hRF, up_n (by omega), up_n (by omega), rgO_lt (by omega)]; exact t21
      have t27 : RF (27) = TR6 27 := by rw [hRF, up_n (by omega), up_n (by omega), rgO_lt (by omega)]; exact t27
      have t28 : RF (28) = rgI 29 30 := by rw [hRF, up_n (by omega), up_n (by omega), rgO_lt (by omega)]; exact t28
      have t29 : ∀ j, j < 30 → RF (29 + 6 * j) = TR1 (29 + 6 * j) := fun j hj => by rw [hRF, up_n (by omega), up_n (by omega), rgO_lt (by omega)]; exact t29 j hj
      have t211 : RF (211) = TR4 211 := by rw [hRF, up_n (by omega), up_n (by omega), rgO_lt (by omega)]; exact t211
      have t215 : RF (215) = TR1 215 := by rw [hRF, up_n (by omega), up_n (by omega), rgO_lt (by omega)]; exact t215
      have t224 : RF (224) = TR3 224 := by rw [hRF, up_n (by omega), up_n (by omega), rgO_lt (by omega)]; exact t224
      have t226 : RF (226) = TR7 226 := by rw [hRF, up_n (by omega), up_n (by omega), rgO_lt (by omega)]; exact t226
      have t235 : RF (235) = TR5 235 := by rw [hRF, up_n (by omega), up_n (by omega), rgO_lt (by omega)]; exact t235
      have t241 : RF (241) = TR7 241 := by rw [hRF, up_n (by omega), up_n (by omega), rgO_lt (by omega)]; exact t241
      have t250 : RF (250) = TR5 250 := by rw [hRF, up_n (by omega), up_n (by omega), rgO_lt (by omega)]; exact t250
      have hcxA : ∀ n R', 274 ≤ n → (∀ x, x < 274 → R' x = RF x) → CX n R' 226 241 := fun n R' hn e => cx_of hn ((e 0 (by decide)).trans t0) ((e 1 (by decide)).trans t1) ((e 3 (by decide)).trans t3) ((e 8 (by decide)).trans t8) ((e 10 (by decide)).trans t10) ((e 13 (by decide)).trans t13) ((e 15 (by decide)).trans t15) ((e 21 (by decide)).trans t21) ((e 27 (by decide)).trans t27) ((e 28 (by decide)).trans t28) (fun j hj => (e _ (by omega)).trans (t29 j hj)) ((e 211 (by decide)).trans t211) ((e 215 (by decide)).trans t215) ((e 224 (by decide)).trans t224) ((e 226 (by decide)).trans t226) ((e 235 (by decide)).trans t235) ((e 241 (by decide)).trans t241) ((e 250 (by decide)).trans t250) ((e 209 (by decide)).trans s209) (fun j hj => (e _ (by omega)).trans (s256 j hj))
      have hcx : CX 274 RF 226 241 := hcxA 274 RF (Nat.le_refl _) (fun _ _ => rfl)
      have hzF : Zr 274 I241 J1 RF := by rw [hRF]; exact Zr.up (Zr.up ((hz.rg (a := 256) (i := 3) (by omega)).le (by omega)) (by omega)) (by omega)
      refine go_aload_n (q := 0) (i := 0) rfl rfl dX11_init_177 ?_
      refine go_getR (r := 15) lf11_47 rfl hcx.o (by show RF 0 _ = _; rw [t0]; rfl) dX11_init_178 ?_
      refine go_aload_n (q := 0) (i := 0) rfl rfl dX11_init_181 ?_
      refine go_getR (r := 226) lf11_86 rfl hcx.o (by show RF 0 _ = _; rw [t0]; rfl) dX11_init_182 ?_
      refine go_callV okmX1_begin lmX11_93 ⟨nle rfl, nle rfl⟩ hcx.1.w5.o ⟨by decide, rfl⟩ (ev_begin hcx.1.w5 (wf7_row (by decide +kernel) (by omega) t226 t235) (Or.inl (by decide))) npmX1_begin rfl (nle rfl) ⟨nle rfl, nle rfl⟩ dX11_init_185 ?_
      rintro _ mF ⟨rfl, hch, hgw⟩
      refine go_c0 ?_
      refine go_vret rfl ⟨nle rfl, nle rfl⟩ dX11_init_188 ⟨rfl, ?_⟩
      have k1 : mF.1 = 274 := hch.1
      have kJ : gJ mF = J1 := hch.2.1
      have kR : gR mF = RF := hch.2.2.1
      have kI : ∀ x, ¬ (15 ≤ x ∧ x ≤ 20) → gI mF x = I241 x := fun x hx => hch.at (by omega)
      have oI : ∀ x, x ≠ 3 → ¬ (226 ≤ x ∧ x ≤ 255) → I241 x = fun _ => 0 := fun x h3 hp => (hI241 x (by omega)).trans ((hI226 x (by omega)).trans (by rw [← hIE, up_n h3]; exact hzI x))
      have oP : ∀ m9 : Me, (∀ x, 226 ≤ x → x ≤ 240 → gI m9 x = I241 x) → PzC m9 226 := fun m9 h9 => hP226.keep (fun x a b => (h9 x a b).trans (hI241 x (by omega)))
      refine ⟨k1, fun n R' hn e => hcxA n R' hn (fun x h => by rw [e x h, kR]), oP mF (fun x a b => kI x (by omega)), ⟨_, hgw, oP _ (fun x a b => rfl)⟩, fun x h3 h15 hp => (kI x h15).trans (oI x h3 hp), ?_, ?_, ?_, ?_⟩
      · rw [kI 3 (by decide), hI241 3 (by decide), hI226 3 (by decide), ← hIE, up_s]
        exact upd_same
      · rw [kJ, ← hJE]; exact up_s
      · intro x hx
        rw [kJ, ← hJE, up_n hx]; exact hzJ x
      · intro x hx
        rw [kJ, kR, kI x (by omega)]
        exact hzF x hx
    · intro i hi ih
      refine go_iload_n (q := 1) (i := 1) rfl rfl dX11_init_153 ?_
      refine go_iconst (v := nI 3) (by decide) dX11_init_154 ?_
      refine gn_ge (by omega) (by omega) (tgt := 177) dX11_init_155 (by decide) (fun h155 => by exfalso; omega) (fun h155 => ?_)
      refine go_aload_n (q := 0) (i := 0) rfl rfl dX11_init_158 ?_
      refine go_getR (r := 209) lf11_61 rfl ⟨by decide +kernel, by show 0 < 256 + 6 * i; omega⟩ (by show va_up (va_up (rgO Y12 256 i) 209 (rgI 256 i)) 0 TR11 0 8 = _; rw [up_s]; rfl) dX11_init_159 ?_
      refine go_iload_n (q := 1) (i := 1) rfl rfl dX11_init_162 ?_
      refine go_newE (ci := 1) (Zr.up (Zr.up (hz.rg (by omega)) (by omega)) (by omega)) (wg1 179 rfl rfl) (by decide) (wg1 180 rfl rfl) (wg1 11 rfl rfl) (hg3 i hi 0 (by decide)) ⟨by show 255 + 6 * i + 1 ≤ 273; omega, by show 10057 + 110 * i + 6 ≤ 10387; omega⟩ dX11_init_163 ?_
      refine go_dup rfl dX11_init_166 ?_
      refine go_callI okmX1_init lmX11_46 ⟨nle rfl, nle rfl⟩ rfl (ev_i1 (Zr.up (Zr.up ((hz.rg (a := 256) (i := i) (by omega)).le (by omega)) (by omega)) (by omega)) (hg3 i hi)) npmX1_init rfl (nle rfl) ⟨by show 255 + 6 * i + 1 + 5 ≤ 273; omega, by show 10057 + 110 * i + 6 + 104 ≤ 10387; omega⟩ dX11_init_167 ?_
      rintro _ _ ⟨rfl, rfl⟩
      refine go_cN (c' := 255 + 6 * (i + 1)) (z' := 10057 + 110 * (i + 1)) (by show 255 + 6 * i + 1 + 5 = _; omega) (by show 10057 + 110 * i + 6 + 104 = _; omega) ?_
      refine go_aast (a := 209) (n := 3) (j := i) ⟨by decide +kernel, by show 209 < 256 + 6 * i + 6; omega⟩ hi (by decide) rfl ⟨hg3 i hi 0 (by decide), by show 256 + 6 * i < 256 + 6 * i + 6; omega⟩ dX11_init_170 ?_
      refine gn_inc (i := 1) (a := i) (q := 1) rfl dX11_init_171 (nle rfl) rfl ?_
      refine go_goto (tgt := 153) dX11_init_174 (by decide) ?_
      refine go_M ?_ ih
      show (256 + 6 * i + 6, I241, J1, va_up (va_up (va_up (va_up (rgO Y12 256 i) 209 (rgI 256 i)) 0 TR11) (256 + 6 * i) (TR1 (256 + 6 * i))) 209 (va_up (va_up (va_up (va_up (rgO Y12 256 i) 209 (rgI 256 i)) 0 TR11) (256 + 6 * i) (TR1 (256 + 6 * i)) 209) i (some (256 + 6 * i)))) = _
      rw [up_n (show 209 ≠ 256 + 6 * i by omega), up_n (show 209 ≠ 0 by omega), up_s, rgI_s, rg_up (by omega) (by omega) (by omega)]
      rfl
  refine go_iconst (v := nI 0) (by decide) dX11_init_151 ?_
  refine go_istore_n (q := 1) (i := 1) rfl dX11_init_152 (nle rfl) (nle rfl) ?_
  refine go_M ?_ (key 0 (Nat.zero_le _))
  show (256, I241, J1, va_up Y12 0 TR11) = (256, I241, J1, va_up (va_up Y12 209 (rgI 256 0)) 0 TR11)
  rw [rgI_0, up_id t209]
