theorem ins_all : ∀ ci, ci < 13 → Cond.instantiable (clC ci) (clN ci) ∈ good_tbl := by
  intro ci h
  rcases (show ci = 0 ∨ ci = 1 ∨ ci = 2 ∨ ci = 3 ∨ ci = 4 ∨ ci = 5 ∨ ci = 6 ∨ ci = 7 ∨ ci = 8 ∨ ci = 9 ∨ ci = 10 ∨ ci = 11 ∨ ci = 12 by omega) with rfl | rfl | rfl | rfl | rfl | rfl | rfl | rfl | rfl | rfl | rfl | rfl | rfl
  · exact (wg1 148 rfl rfl)
  · exact (wg1 180 rfl rfl)
  · exact (wg1 135 rfl rfl)
  · exact (wg2 30 rfl rfl)
  · exact (wg1 235 rfl rfl)
  · exact (wg2 55 rfl rfl)
  · exact (wg1 215 rfl rfl)
  · exact (wg2 49 rfl rfl)
  · exact (wg1 170 rfl rfl)
  · exact (wg1 29 rfl rfl)
  · exact (wg1 45 rfl rfl)
  · exact (wg1 21 rfl rfl)
  · exact (wg5 189 rfl rfl)
def tmS (i : Nat) : Term := if i = 0 then .string "FogShare$Tokens" 29 else .string "FogShare$Tokens" 85
abbrev gvF : List Jvm.Cond := flatC (Jvm.Cond.and given_1 narrow_1)
set_option maxRecDepth 100000 in
theorem gv_x : ∀ i, i < 2 → (Cond.exactly (tmS i) "java/lang/String") ∈ gvF := by decide +kernel
set_option maxRecDepth 100000 in
theorem gv_c : ∀ i, i < 2 → (Cond.eq (.field (tmS i) "java/lang/String" "coder" "B") (.int 0)) ∈ gvF := by decide +kernel
set_option maxRecDepth 100000 in
theorem gv_a : ∀ i, i < 2 → (Cond.arrayOf (.field (tmS i) "java/lang/String" "value" "[B") .byte) ∈ gvF := by decide +kernel
set_option maxRecDepth 100000 in
theorem gv_l : ∀ i, i < 2 → (Cond.eq (.length (.field (tmS i) "java/lang/String" "value" "[B")) (.int (Int32.ofNat (txL.getD i 0)))) ∈ gvF := by decide +kernel
set_option maxRecDepth 100000 in
theorem gv_e : ∀ i, i < 2 → ∀ j, j < txL.getD i 0 → (Cond.eq (.elem (.field (tmS i) "java/lang/String" "value" "[B") (.int (Int32.ofNat j))) (.int ((txB.getD i []).getD j 0))) ∈ gvF := by decide +kernel
set_option maxRecDepth 100000 in
theorem gv_n : (Cond.not (Cond.eq (tmS 0) (tmS 1))) ∈ gvF ∨ (Cond.not (Cond.eq (tmS 1) (tmS 0))) ∈ gvF := by decide +kernel
set_option maxRecDepth 100000 in
theorem gv_z : (Cond.eq (.static "java/lang/String" "COMPACT_STRINGS" "Z") (.int 1)) ∈ gvF ∧ (Cond.isRef (.static "jdk/internal/util/Preconditions" "SIOOBE_FORMATTER" "Ljava/util/function/BiFunction;")) ∈ gvF := by decide +kernel
set_option maxRecDepth 100000 in
set_option maxHeartbeats 4000000 in
/-- what the law knows where it begins -/
theorem kn_entry {bs : Nat} {s : State} (hts : ∀ w ∈ lw_tbl, w.before #[Value.ref bs] s = true) (hgv : (Jvm.Cond.and given_1 narrow_1).before #[Value.ref bs] s = true) : ∃ (D : va_G) (ty : Nat → ClassId) (f : Nat → Option Nat), f 200 = some bs ∧ Kn D ty (s.heap.size, f) s := by
  have hg := flat_of_before _ hgv
  have hA : ∀ a : Nat, a < s.heap.size → ¬ (fun q : Nat => s.heap.size ≤ q) a := fun a h9 => Nat.not_le.mpr h9
  have h1 : ∀ ci : Nat, ∃ q : ClassId × (Nat → Nat), ci < 13 → u_Kn s (clC ci) (clT ci) (clN ci) q.1 q.2 := fun ci => by
    by_cases h : ci < 13
    · obtain ⟨c, i, k⟩ := u_known (C := clC ci) (T := clT ci) (N := clN ci) (n := clN ci) (fun w hw => hts w (List.mem_filter.mp hw).1) (cl_in h) (hts _ (List.mem_filter.mp (ins_all ci h)).1)
      exact ⟨(c, i), fun _ => k⟩
    · exact ⟨(0, fun _ => 0), fun q => absurd q h⟩
  obtain ⟨f, hf⟩ := Classical.axiomOfChoice h1
  obtain ⟨ci, ki, pi, ai, bi, di⟩ := Cond.arrayClass_spec (type := .int) (hts _ (List.mem_filter.mp acI).1)
  obtain ⟨cb, kb, pb, ab, bb, db⟩ := Cond.arrayClass_spec (type := .byte) (hts _ (List.mem_filter.mp acB).1)
  obtain ⟨cz, kz, pz, az, bz, dz⟩ := Cond.arrayClass_spec (type := .boolean) (hts _ (List.mem_filter.mp acZ).1)
  obtain ⟨cj, kj, pj, aj, bj, dj⟩ := Cond.arrayClass_spec (type := .long) (hts _ (List.mem_filter.mp acJ).1)
  obtain ⟨p4, c4, k4, n4, -, b4, d4, a4⟩ := Cond.arrayOver_spec (n := RX1) (hts _ (in_t1 (List.mem_of_getElem? (i := 221) rfl)))
  obtain ⟨adK, adV, hS, hev⟩ := vk_Sof (A := (fun q : Nat => s.heap.size ≤ q)) (tm := tmS) (len := txL) (byt := txB) (N := 2) (by decide +kernel) (fun i hi => hg _ (gv_x i hi)) (fun i hi => hg _ (gv_c i hi)) (fun i hi => hg _ (gv_a i hi)) (fun i hi => hg _ (gv_l i hi)) (fun i hi j hj => hg _ (gv_e i hi j hj)) (fun i j hi hj hij => by
    rcases (show (i = 0 ∧ j = 1) ∨ (i = 1 ∧ j = 0) by omega) with ⟨rfl, rfl⟩ | ⟨rfl, rfl⟩
    · exact gv_n.elim (fun h => Or.inl (hg _ h)) (fun h => Or.inr (hg _ h))
    · exact gv_n.elim (fun h => Or.inr (hg _ h)) (fun h => Or.inl (hg _ h))) hA
  have hR0 : vk_R RX10 29 tx0 (adK 0) s := vk_R.of (hts _ (in_t1 (List.mem_of_getElem? (i := 50) rfl))) (hev 0 (by decide))
  have hR1 : vk_R RX10 85 tx1 (adK 1) s := vk_R.of (hts _ (in_t3 (List.mem_of_getElem? (i := 59) rfl))) (hev 1 (by decide))
  have hZ := va_Zof (A := (fun q : Nat => s.heap.size ≤ q)) (hts _ (in_t1 (List.mem_of_getElem? (i := 60) rfl))) (hts _ (List.mem_filter.mp (wg1 4 rfl rfl)).1) (va_eqi (hg _ gv_z.1)) hA
  have hF := va_Zqof (A := (fun q : Nat => s.heap.size ≤ q)) (hts _ (in_t1 (List.mem_of_getElem? (i := 76) rfl))) (hts _ (List.mem_filter.mp (wg1 6 rfl rfl)).1) (hg _ gv_z.2) hA
  obtain ⟨fo, hfo⟩ : ∃ fo : Option Nat, va_Z "jdk/internal/util/Preconditions" "SIOOBE_FORMATTER" "Ljava/util/function/BiFunction;" (va_rf fo) (fun q : Nat => s.heap.size ≤ q) s s.heap := by
    rcases hF with h | ⟨t, h⟩
    · exact ⟨none, h⟩
    · exact ⟨some t, h⟩
  refine ⟨(fun c => (f c).1, fun c => (f c).2), fun k => if k = 0 then ci else if k = 1 then cb else if k = 2 then cz else if k = 3 then cj else c4, fun i => if i = 0 then some (adK 0) else if i = 1 then some (adV 0) else if i = 2 then some (adK 1) else if i = 3 then some (adV 1) else if i = 100 then fo else if i = 200 then some bs else none, rfl, ⟨fun c q hq => ?_, fun k q hq => ?_⟩, fun w hw => ?_, ?_, adK, adV, fun i hi => ?_, hS, hR0, hR1, hZ, hfo⟩
  · have hc : c < 13 := (List.getElem?_eq_some_iff.mp hq).1
    have e := Option.some.inj (hq.symm.trans (cl_at hc))
    subst e
    exact hf c hc
  · match k, hq with
      | 0, hq => cases hq; exact ⟨fun n z => ⟨(fun k h => by cases h), ki, bi, pi, di⟩, ai⟩
      | 1, hq => cases hq; exact ⟨fun n z => ⟨(fun k h => by cases h), kb, bb, pb, db⟩, ab⟩
      | 2, hq => cases hq; exact ⟨fun n z => ⟨(fun k h => by cases h), kz, bz, pz, dz⟩, az⟩
      | 3, hq => cases hq; exact ⟨fun n z => ⟨(fun k h => by cases h), kj, bj, pj, dj⟩, aj⟩
      | 4, hq => cases hq; exact ⟨fun n z => ⟨(fun k h => by cases h), k4, b4, p4, d4⟩, ⟨k4, p4, b4, d4, n4, a4⟩⟩
      | k + 5, hq => simp [tyl] at hq
  · exact va_Nw.of (nest_on (List.mem_filter.mp hw).2) (hts w (List.mem_filter.mp hw).1)
  · exact va_AO.of (A := #[Value.ref bs]) (hts _ (in_t1 (List.mem_of_getElem? (i := 221) rfl)))
  · rcases (show i = 0 ∨ i = 1 by omega) with rfl | rfl <;> exact ⟨rfl, rfl⟩
