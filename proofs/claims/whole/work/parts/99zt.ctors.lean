theorem SHs.sub {a i : Nat} {l l' : List (Nat × Nat)} (h : SHs a l) (e : ∀ k (hk : k < l'.length), l[i + k]? = some l'[k]) : SHs (a + i) l' := fun k hk => by
  obtain ⟨h1, h2⟩ := List.getElem?_eq_some_iff.mp (e k hk)
  rw [Nat.add_assoc, h _ h1]
  exact h2
def TR9 (a : Nat) : Nat → Option Nat := (va_up (fun _ => none) 0 (some (a + 1)))
set_option maxRecDepth 100000 in
set_option maxHeartbeats 4000000 in
/-- FogShare$Tape is made -/
theorem ev_i9 {I : Nat → Nat → Int32} {J : Nat → Nat → Int64} {R : Nat → Nat → Option Nat} {a : Nat} (hz : Zr (a + 1) I J R) (hs : SHs a [(0, 9), (2, 2000)]) : Ev mX9_init [.ref a] (a + 1, I, J, va_up R a (fun _ => none)) (fun o m' => o = none ∧ m' = (a + 2, I, J, va_up R a (TR9 a))) := by
  refine ⟨plmX9_init, nle rfl, ?_⟩
  refine go_aload_n (q := 0) (i := 0) rfl rfl dX9_init_0 ?_
  refine go_obj (wg1 33 rfl rfl) okObj ⟨nle rfl, nle rfl⟩ dX9_init_1 ?_
  refine go_aload_n (q := 0) (i := 0) rfl rfl dX9_init_4 ?_
  refine go_sipush (v := nI 2000) (by decide) dX9_init_5 ?_
  refine go_nwaB (N := 2000) (Zr.up (hz.le (by omega)) (by omega)) (hs 1 (by decide)) (by decide) ⟨nle rfl, nle rfl⟩ dX9_init_8 ?_
  refine go_putE lf9_9 rfl fo9_9 (hs 0 (by decide)) (by omega) dX9_init_10 ?_
  exact go_vret rfl ⟨nle rfl, nle rfl⟩ dX9_init_13 ⟨rfl, rfl⟩
def TR2 (a : Nat) : Nat → Option Nat := (va_up (fun _ => none) 0 (some (a + 1)))
set_option maxRecDepth 100000 in
set_option maxHeartbeats 4000000 in
/-- FogShare$Grammar is made -/
theorem ev_i2 {I : Nat → Nat → Int32} {J : Nat → Nat → Int64} {R : Nat → Nat → Option Nat} {a : Nat} (hz : Zr (a + 1) I J R) (hs : SHs a [(0, 2), (1, 4)]) : Ev mX2_init [.ref a] (a + 1, I, J, va_up R a (fun _ => none)) (fun o m' => o = none ∧ m' = (a + 2, I, J, va_up R a (TR2 a))) := by
  refine ⟨plmX2_init, nle rfl, ?_⟩
  refine go_aload_n (q := 0) (i := 0) rfl rfl dX2_init_0 ?_
  refine go_obj (wg1 139 rfl rfl) okObj ⟨nle rfl, nle rfl⟩ dX2_init_1 ?_
  refine go_aload_n (q := 0) (i := 0) rfl rfl dX2_init_4 ?_
  refine go_iconst (v := nI 4) (by decide) dX2_init_5 ?_
  refine go_nwaI (N := 4) (Zr.up (hz.le (by omega)) (by omega)) (hs 1 (by decide)) (by decide) ⟨nle rfl, nle rfl⟩ dX2_init_6 ?_
  refine go_putE lf2_9 rfl fo2_9 (hs 0 (by decide)) (by omega) dX2_init_8 ?_
  exact go_vret rfl ⟨nle rfl, nle rfl⟩ dX2_init_11 ⟨rfl, rfl⟩
def TR0 (a : Nat) : Nat → Option Nat := (va_up (va_up (fun _ => none) 0 (some (a + 1))) 1 (some (a + 2)))
set_option maxRecDepth 100000 in
set_option maxHeartbeats 4000000 in
/-- FogShare$Drafter is made -/
theorem ev_i0 {I : Nat → Nat → Int32} {J : Nat → Nat → Int64} {R : Nat → Nat → Option Nat} {a : Nat} (hz : Zr (a + 1) I J R) (hs : SHs a [(0, 0), (4, 4), (4, 6)]) : Ev mX0_init [.ref a] (a + 1, I, J, va_up R a (fun _ => none)) (fun o m' => o = none ∧ m' = (a + 3, I, J, va_up R a (TR0 a))) := by
  refine ⟨plmX0_init, nle rfl, ?_⟩
  refine go_aload_n (q := 0) (i := 0) rfl rfl dX0_init_0 ?_
  refine go_obj (wg1 152 rfl rfl) okObj ⟨nle rfl, nle rfl⟩ dX0_init_1 ?_
  refine go_aload_n (q := 0) (i := 0) rfl rfl dX0_init_4 ?_
  refine go_iconst (v := nI 4) (by decide) dX0_init_5 ?_
  refine go_nwaJ (N := 4) (Zr.up (hz.le (by omega)) (by omega)) (hs 1 (by decide)) (by decide) ⟨nle rfl, nle rfl⟩ dX0_init_6 ?_
  refine go_putE lf0_9 rfl fo0_9 (hs 0 (by decide)) (by omega) dX0_init_8 ?_
  refine go_aload_n (q := 0) (i := 0) rfl rfl dX0_init_11 ?_
  refine go_bipush (v := nI 6) (by decide) dX0_init_12 ?_
  refine go_nwaJ (N := 6) (Zr.up (hz.le (by omega)) (by omega)) (hs 2 (by decide)) (by decide) ⟨nle rfl, nle rfl⟩ dX0_init_14 ?_
  refine go_putE lf0_15 rfl fo0_15 (hs 0 (by decide)) (by omega) dX0_init_16 ?_
  exact go_vret rfl ⟨nle rfl, nle rfl⟩ dX0_init_19 ⟨rfl, rfl⟩
def TR8 (a : Nat) : Nat → Option Nat := (va_up (fun _ => none) 0 (some (a + 1)))
set_option maxRecDepth 100000 in
set_option maxHeartbeats 4000000 in
/-- FogShare$Sky is made -/
theorem ev_i8 {I : Nat → Nat → Int32} {J : Nat → Nat → Int64} {R : Nat → Nat → Option Nat} {a : Nat} (hz : Zr (a + 1) I J R) (hs : SHs a [(0, 8), (1, 40)]) : Ev mX8_init [.ref a] (a + 1, I, J, va_up R a (fun _ => none)) (fun o m' => o = none ∧ m' = (a + 2, I, J, va_up R a (TR8 a))) := by
  refine ⟨plmX8_init, nle rfl, ?_⟩
  refine go_aload_n (q := 0) (i := 0) rfl rfl dX8_init_0 ?_
  refine go_obj (wg1 174 rfl rfl) okObj ⟨nle rfl, nle rfl⟩ dX8_init_1 ?_
  refine go_aload_n (q := 0) (i := 0) rfl rfl dX8_init_4 ?_
  refine go_bipush (v := nI 40) (by decide) dX8_init_5 ?_
  refine go_nwaI (N := 40) (Zr.up (hz.le (by omega)) (by omega)) (hs 1 (by decide)) (by decide) ⟨nle rfl, nle rfl⟩ dX8_init_7 ?_
  refine go_putE lf8_9 rfl fo8_9 (hs 0 (by decide)) (by omega) dX8_init_9 ?_
  exact go_vret rfl ⟨nle rfl, nle rfl⟩ dX8_init_12 ⟨rfl, rfl⟩
def TR1 (a : Nat) : Nat → Option Nat := (va_up (va_up (va_up (va_up (va_up (fun _ => none) 1 (some (a + 1))) 2 (some (a + 2))) 3 (some (a + 3))) 4 (some (a + 4))) 5 (some (a + 5)))
set_option maxRecDepth 100000 in
set_option maxHeartbeats 4000000 in
/-- FogShare$Going is made -/
theorem ev_i1 {I : Nat → Nat → Int32} {J : Nat → Nat → Int64} {R : Nat → Nat → Option Nat} {a : Nat} (hz : Zr (a + 1) I J R) (hs : SHs a [(0, 1), (1, 40), (1, 40), (1, 4), (1, 4), (1, 16)]) : Ev mX1_init [.ref a] (a + 1, I, J, va_up R a (fun _ => none)) (fun o m' => o = none ∧ m' = (a + 6, I, J, va_up R a (TR1 a))) := by
  refine ⟨plmX1_init, nle rfl, ?_⟩
  refine go_aload_n (q := 0) (i := 0) rfl rfl dX1_init_0 ?_
  refine go_obj (wg1 184 rfl rfl) okObj ⟨nle rfl, nle rfl⟩ dX1_init_1 ?_
  refine go_aload_n (q := 0) (i := 0) rfl rfl dX1_init_4 ?_
  refine go_bipush (v := nI 40) (by decide) dX1_init_5 ?_
  refine go_nwaI (N := 40) (Zr.up (hz.le (by omega)) (by omega)) (hs 1 (by decide)) (by decide) ⟨nle rfl, nle rfl⟩ dX1_init_7 ?_
  refine go_putE lf1_9 rfl fo1_9 (hs 0 (by decide)) (by omega) dX1_init_9 ?_
  refine go_aload_n (q := 0) (i := 0) rfl rfl dX1_init_12 ?_
  refine go_bipush (v := nI 40) (by decide) dX1_init_13 ?_
  refine go_nwaI (N := 40) (Zr.up (hz.le (by omega)) (by omega)) (hs 2 (by decide)) (by decide) ⟨nle rfl, nle rfl⟩ dX1_init_15 ?_
  refine go_putE lf1_15 rfl fo1_15 (hs 0 (by decide)) (by omega) dX1_init_17 ?_
  refine go_aload_n (q := 0) (i := 0) rfl rfl dX1_init_20 ?_
  refine go_iconst (v := nI 4) (by decide) dX1_init_21 ?_
  refine go_nwaI (N := 4) (Zr.up (hz.le (by omega)) (by omega)) (hs 3 (by decide)) (by decide) ⟨nle rfl, nle rfl⟩ dX1_init_22 ?_
  refine go_putE lf1_18 rfl fo1_18 (hs 0 (by decide)) (by omega) dX1_init_24 ?_
  refine go_aload_n (q := 0) (i := 0) rfl rfl dX1_init_27 ?_
  refine go_iconst (v := nI 4) (by decide) dX1_init_28 ?_
  refine go_nwaI (N := 4) (Zr.up (hz.le (by omega)) (by omega)) (hs 4 (by decide)) (by decide) ⟨nle rfl, nle rfl⟩ dX1_init_29 ?_
  refine go_putE lf1_21 rfl fo1_21 (hs 0 (by decide)) (by omega) dX1_init_31 ?_
  refine go_aload_n (q := 0) (i := 0) rfl rfl dX1_init_34 ?_
  refine go_bipush (v := nI 16) (by decide) dX1_init_35 ?_
  refine go_nwaI (N := 16) (Zr.up (hz.le (by omega)) (by omega)) (hs 5 (by decide)) (by decide) ⟨nle rfl, nle rfl⟩ dX1_init_37 ?_
  refine go_putE lf1_24 rfl fo1_24 (hs 0 (by decide)) (by omega) dX1_init_39 ?_
  exact go_vret rfl ⟨nle rfl, nle rfl⟩ dX1_init_42 ⟨rfl, rfl⟩
def TR5 (a : Nat) : Nat → Option Nat := (va_up (va_up (va_up (va_up (va_up (fun _ => none) 0 (some (a + 1))) 1 (some (a + 2))) 2 (some (a + 3))) 3 (some (a + 4))) 4 (some (a + 5)))
set_option maxRecDepth 100000 in
set_option maxHeartbeats 4000000 in
/-- FogShare$Laws is made -/
theorem ev_i5 {I : Nat → Nat → Int32} {J : Nat → Nat → Int64} {R : Nat → Nat → Option Nat} {a : Nat} (hz : Zr (a + 1) I J R) (hs : SHs a [(0, 5), (1, 420), (1, 4), (1, 9), (1, 24), (1, 24)]) : Ev mX5_init [.ref a] (a + 1, I, J, va_up R a (fun _ => none)) (fun o m' => o = none ∧ m' = (a + 6, I, J, va_up R a (TR5 a))) := by
  refine ⟨plmX5_init, nle rfl, ?_⟩
  refine go_aload_n (q := 0) (i := 0) rfl rfl dX5_init_0 ?_
  refine go_obj (wg2 59 rfl rfl) okObj ⟨nle rfl, nle rfl⟩ dX5_init_1 ?_
  refine go_aload_n (q := 0) (i := 0) rfl rfl dX5_init_4 ?_
  refine go_sipush (v := nI 420) (by decide) dX5_init_5 ?_
  refine go_nwaI (N := 420) (Zr.up (hz.le (by omega)) (by omega)) (hs 1 (by decide)) (by decide) ⟨nle rfl, nle rfl⟩ dX5_init_8 ?_
  refine go_putE lf5_9 rfl fo5_9 (hs 0 (by decide)) (by omega) dX5_init_10 ?_
  refine go_aload_n (q := 0) (i := 0) rfl rfl dX5_init_13 ?_
  refine go_iconst (v := nI 4) (by decide) dX5_init_14 ?_
  refine go_nwaI (N := 4) (Zr.up (hz.le (by omega)) (by omega)) (hs 2 (by decide)) (by decide) ⟨nle rfl, nle rfl⟩ dX5_init_15 ?_
  refine go_putE lf5_15 rfl fo5_15 (hs 0 (by decide)) (by omega) dX5_init_17 ?_
  refine go_aload_n (q := 0) (i := 0) rfl rfl dX5_init_20 ?_
  refine go_bipush (v := nI 9) (by decide) dX5_init_21 ?_
  refine go_nwaI (N := 9) (Zr.up (hz.le (by omega)) (by omega)) (hs 3 (by decide)) (by decide) ⟨nle rfl, nle rfl⟩ dX5_init_23 ?_
  refine go_putE lf5_18 rfl fo5_18 (hs 0 (by decide)) (by omega) dX5_init_25 ?_
  refine go_aload_n (q := 0) (i := 0) rfl rfl dX5_init_28 ?_
  refine go_bipush (v := nI 24) (by decide) dX5_init_29 ?_
  refine go_nwaI (N := 24) (Zr.up (hz.le (by omega)) (by omega)) (hs 4 (by decide)) (by decide) ⟨nle rfl, nle rfl⟩ dX5_init_31 ?_
  refine go_putE lf5_21 rfl fo5_21 (hs 0 (by decide)) (by omega) dX5_init_33 ?_
  refine go_aload_n (q := 0) (i := 0) rfl rfl dX5_init_36 ?_
  refine go_bipush (v := nI 24) (by decide) dX5_init_37 ?_
  refine go_nwaI (N := 24) (Zr.up (hz.le (by omega)) (by omega)) (hs 5 (by decide)) (by decide) ⟨nle rfl, nle rfl⟩ dX5_init_39 ?_
  refine go_putE lf5_24 rfl fo5_24 (hs 0 (by decide)) (by omega) dX5_init_41 ?_
  exact go_vret rfl ⟨nle rfl, nle rfl⟩ dX5_init_44 ⟨rfl, rfl⟩
def TR3 (a : Nat) : Nat → Option Nat := (va_up (fun _ => none) 0 (some (a + 1)))
set_option maxRecDepth 100000 in
set_option maxHeartbeats 4000000 in
/-- FogShare$Guard is made -/
theorem ev_i3 {I : Nat → Nat → Int32} {J : Nat → Nat → Int64} {R : Nat → Nat → Option Nat} {a : Nat} (hz : Zr (a + 1) I J R) (hs : SHs a [(0, 3), (1, 3)]) : Ev mX3_init [.ref a] (a + 1, I, J, va_up R a (fun _ => none)) (fun o m' => o = none ∧ m' = (a + 2, I, J, va_up R a (TR3 a))) := by
  refine ⟨plmX3_init, nle rfl, ?_⟩
  refine go_aload_n (q := 0) (i := 0) rfl rfl dX3_init_0 ?_
  refine go_obj (wg2 34 rfl rfl) okObj ⟨nle rfl, nle rfl⟩ dX3_init_1 ?_
  refine go_aload_n (q := 0) (i := 0) rfl rfl dX3_init_4 ?_
  refine go_iconst (v := nI 3) (by decide) dX3_init_5 ?_
  refine go_nwaI (N := 3) (Zr.up (hz.le (by omega)) (by omega)) (hs 1 (by decide)) (by decide) ⟨nle rfl, nle rfl⟩ dX3_init_6 ?_
  refine go_putE lf3_9 rfl fo3_9 (hs 0 (by decide)) (by omega) dX3_init_8 ?_
  exact go_vret rfl ⟨nle rfl, nle rfl⟩ dX3_init_11 ⟨rfl, rfl⟩
def TR4 (a : Nat) : Nat → Option Nat := (va_up (va_up (va_up (va_up (va_up (va_up (va_up (fun _ => none) 0 (some (a + 1))) 1 (some (a + 2))) 2 (some (a + 3))) 4 (some (a + 4))) 5 (some (a + 10))) 6 (some (a + 11))) 7 (some (a + 12)))
set_option maxRecDepth 100000 in
set_option maxHeartbeats 4000000 in
/-- FogShare$Hunt is made -/
theorem ev_i4 {I : Nat → Nat → Int32} {J : Nat → Nat → Int64} {R : Nat → Nat → Option Nat} {a : Nat} (hz : Zr (a + 1) I J R) (hs : SHs a [(0, 4), (1, 20), (1, 20), (1, 20), (0, 1), (1, 40), (1, 40), (1, 4), (1, 4), (1, 16), (3, 41), (1, 1640), (1, 100)]) : Ev mX4_init [.ref a] (a + 1, I, J, va_up R a (fun _ => none)) (fun o m' => o = none ∧ m' = (a + 13, I, J, va_up (va_up R (a + 4) (TR1 (a + 4))) a (TR4 a))) := by
  refine ⟨plmX4_init, nle rfl, ?_⟩
  refine go_aload_n (q := 0) (i := 0) rfl rfl dX4_init_0 ?_
  refine go_obj (wg1 239 rfl rfl) okObj ⟨nle rfl, nle rfl⟩ dX4_init_1 ?_
  refine go_aload_n (q := 0) (i := 0) rfl rfl dX4_init_4 ?_
  refine go_bipush (v := nI 20) (by decide) dX4_init_5 ?_
  refine go_nwaI (N := 20) (Zr.up (hz.le (by omega)) (by omega)) (hs 1 (by decide)) (by decide) ⟨nle rfl, nle rfl⟩ dX4_init_7 ?_
  refine go_putE lf4_9 rfl fo4_9 (hs 0 (by decide)) (by omega) dX4_init_9 ?_
  refine go_aload_n (q := 0) (i := 0) rfl rfl dX4_init_12 ?_
  refine go_bipush (v := nI 20) (by decide) dX4_init_13 ?_
  refine go_nwaI (N := 20) (Zr.up (hz.le (by omega)) (by omega)) (hs 2 (by decide)) (by decide) ⟨nle rfl, nle rfl⟩ dX4_init_15 ?_
  refine go_putE lf4_15 rfl fo4_15 (hs 0 (by decide)) (by omega) dX4_init_17 ?_
  refine go_aload_n (q := 0) (i := 0) rfl rfl dX4_init_20 ?_
  refine go_bipush (v := nI 20) (by decide) dX4_init_21 ?_
  refine go_nwaI (N := 20) (Zr.up (hz.le (by omega)) (by omega)) (hs 3 (by decide)) (by decide) ⟨nle rfl, nle rfl⟩ dX4_init_23 ?_
  refine go_putE lf4_18 rfl fo4_18 (hs 0 (by decide)) (by omega) dX4_init_25 ?_
  refine go_aload_n (q := 0) (i := 0) rfl rfl dX4_init_28 ?_
  refine go_newE (ci := 1) (Zr.up (hz.le (by omega)) (by omega)) (wg2 0 rfl rfl) (by decide) (wg1 180 rfl rfl) (wg1 11 rfl rfl) (hs 4 (by decide)) ⟨nle rfl, nle rfl⟩ dX4_init_29 ?_
  refine go_dup rfl dX4_init_32 ?_
  refine go_callI okmX1_init lmX4_23 ⟨nle rfl, nle rfl⟩ rfl (ev_i1 (Zr.up (hz.le (by omega)) (by omega)) (SHs.sub (i := 4) (l' := [(0, 1), (1, 40), (1, 40), (1, 4), (1, 4), (1, 16)]) hs (by decide))) npmX1_init rfl (nle rfl) ⟨nle rfl, nle rfl⟩ dX4_init_33 ?_
  rintro _ _ ⟨rfl, rfl⟩
  refine go_cN (c' := 9) (z' := 170) rfl rfl ?_
  refine go_putO lf4_24 rfl fo4_24 (hs 0 (by decide)) (by omega) (by omega) dX4_init_36 ?_
  refine go_aload_n (q := 0) (i := 0) rfl rfl dX4_init_39 ?_
  refine go_bipush (v := nI 41) (by decide) dX4_init_40 ?_
  refine go_nwaZ (N := 41) (Zr.up (Zr.up (hz.le (by omega)) (by omega)) (by omega)) (hs 10 (by decide)) (by decide) ⟨nle rfl, nle rfl⟩ dX4_init_42 ?_
  refine go_putE lf4_28 rfl fo4_28 (hs 0 (by decide)) (by omega) dX4_init_44 ?_
  refine go_aload_n (q := 0) (i := 0) rfl rfl dX4_init_47 ?_
  refine go_sipush (v := nI 1640) (by decide) dX4_init_48 ?_
  refine go_nwaI (N := 1640) (Zr.up (Zr.up (hz.le (by omega)) (by omega)) (by omega)) (hs 11 (by decide)) (by decide) ⟨nle rfl, nle rfl⟩ dX4_init_51 ?_
  refine go_putE lf4_32 rfl fo4_32 (hs 0 (by decide)) (by omega) dX4_init_53 ?_
  refine go_aload_n (q := 0) (i := 0) rfl rfl dX4_init_56 ?_
  refine go_bipush (v := nI 100) (by decide) dX4_init_57 ?_
  refine go_nwaI (N := 100) (Zr.up (Zr.up (hz.le (by omega)) (by omega)) (by omega)) (hs 12 (by decide)) (by decide) ⟨nle rfl, nle rfl⟩ dX4_init_59 ?_
  refine go_putE lf4_35 rfl fo4_35 (hs 0 (by decide)) (by omega) dX4_init_61 ?_
  exact go_vret rfl ⟨nle rfl, nle rfl⟩ dX4_init_64 ⟨rfl, rfl⟩
