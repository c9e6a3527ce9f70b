set_option maxRecDepth 100000 in
set_option maxHeartbeats 4000000 in
theorem ev_laddD {m : Me} {la : Nat} {D : Cs} (hl : Wf5 m.1 (gR m) la) (h : LD m la D) {s v : Nat} (hd : D.length < 420) : Ev mX5_add [.ref la, .int (nI s), .int (nI v)] m (fun o m' => o = none ∧ LD m' la (D ++ [(s, v)]) ∧ Fx (fun x => x = la ∨ x = la + 1) (fun _ => False) m m') := by
  refine ⟨plmX5_add, nle rfl, ?_⟩
  refine go_aload_n (q := 0) (i := 0) rfl rfl dX5_add_0 ?_
  refine go_getI lf5_27 rfl hl.o dX5_add_1 ?_
  rw [h.1]
  refine gz_lt (by omega) (tgt := 42) dX5_add_4 (by decide) (fun h4 => by exfalso; omega) (fun h4 => ?_)
  refine go_aload_n (q := 0) (i := 0) rfl rfl dX5_add_7 ?_
  refine go_getI lf5_27 rfl hl.o dX5_add_8 ?_
  rw [h.1]
  refine go_sipush (v := nI 420) (by decide) dX5_add_11 ?_
  refine gn_ge (by omega) (by omega) (tgt := 42) dX5_add_14 (by decide) (fun h14 => by exfalso; omega) (fun h14 => ?_)
  refine go_aload_n (q := 0) (i := 0) rfl rfl dX5_add_17 ?_
  refine go_getR lf5_9 rfl hl.o hl.r0 dX5_add_18 ?_
  refine go_aload_n (q := 0) (i := 0) rfl rfl dX5_add_21 ?_
  refine go_getI lf5_27 rfl hl.o dX5_add_22 ?_
  rw [h.1]
  refine go_iload_n (q := 1) (i := 1) rfl rfl dX5_add_25 ?_
  refine go_bipush (v := nI 16) (by decide) dX5_add_26 ?_
  refine go_ishl dX5_add_28 ?_
  refine go_iload_n (q := 2) (i := 2) rfl rfl dX5_add_29 ?_
  refine go_ior dX5_add_30 ?_
  refine go_iast (j := D.length) hl.i0 (by omega) (by first | decide | omega) rfl dX5_add_31 ?_
  refine go_aload_n (q := 0) (i := 0) rfl rfl dX5_add_32 ?_
  refine go_dup rfl dX5_add_33 ?_
  refine go_getI lf5_27 rfl hl.o dX5_add_34 ?_
  rw [gI_n (by omega), h.1]
  refine go_iconst (v := nI 1) (by decide) dX5_add_37 ?_
  refine gn_add dX5_add_38 ?_
  refine go_putI lf5_27 rfl (Or.inl rfl) hl.o dX5_add_39 ?_
  refine go_vret rfl ⟨Nat.zero_le _, Nat.zero_le _⟩ dX5_add_42 ?_
  refine ⟨rfl, ⟨?_, fun i c hi => ?_⟩, Fx.I (Fx.I Fx.rf (Or.inr rfl)) (Or.inl rfl)⟩
  · rw [gI_s, upd_same, List.length_append]; rfl
  · rw [gI_n (by omega), gI_s]
    by_cases e : i < D.length
    · rw [upd_ne (by omega)]
      rw [List.getElem?_append_left e] at hi
      exact h.2 i c hi
    · have hlt := (List.getElem?_eq_some_iff.mp hi).1
      rw [List.length_append] at hlt
      have e2 : i = D.length := by simp at hlt; omega
      subst e2
      rw [List.getElem?_append_right (Nat.le_refl _), Nat.sub_self] at hi
      rw [upd_same]
      cases hi
      rfl
set_option maxRecDepth 100000 in
set_option maxHeartbeats 4000000 in
theorem ev_lstartD {m : Me} {la : Nat} {D : Cs} (hl : Wf5 m.1 (gR m) la) (h : LD m la D) {k : Nat} (hk : k < 4) : Ev mX5_startLaw [.ref la, .int (nI k)] m (fun o m' => o = none ∧ m' = sI m (la + 2) (upd (gI m (la + 2)) k (nI D.length))) := by
  refine ⟨plmX5_startLaw, nle rfl, ?_⟩
  refine go_iload_n (q := 1) (i := 1) rfl rfl dX5_startLaw_0 ?_
  refine gz_lt (by omega) (tgt := 19) dX5_startLaw_1 (by decide) (fun h1 => by exfalso; omega) (fun h1 => ?_)
  refine go_iload_n (q := 1) (i := 1) rfl rfl dX5_startLaw_4 ?_
  refine go_iconst (v := nI 4) (by decide) dX5_startLaw_5 ?_
  refine gn_ge (by omega) (by omega) (tgt := 19) dX5_startLaw_6 (by decide) (fun h6 => by exfalso; omega) (fun h6 => ?_)
  refine go_aload_n (q := 0) (i := 0) rfl rfl dX5_startLaw_9 ?_
  refine go_getR lf5_15 rfl hl.o hl.r1 dX5_startLaw_10 ?_
  refine go_iload_n (q := 1) (i := 1) rfl rfl dX5_startLaw_13 ?_
  refine go_aload_n (q := 0) (i := 0) rfl rfl dX5_startLaw_14 ?_
  refine go_getI lf5_27 rfl hl.o dX5_startLaw_15 ?_
  rw [h.1]
  refine go_iast (j := k) hl.i1 (by omega) (by first | decide | omega) rfl dX5_startLaw_18 ?_
  refine go_vret rfl ⟨Nat.zero_le _, Nat.zero_le _⟩ dX5_startLaw_19 ?_
  exact ⟨rfl, rfl⟩
/-- the code of the four laws that no text told -/
def cdZ : Cs := [(0, 0), (7, 0), (1, 0), (0, 4), (5, 0), (7, 0), (0, 1), (7, 0), (1, 7), (7, 0)]
theorem LwD.z {m : Me} {la : Nat} (h : LD m la cdZ) (h0 : gI m (la + 2) 0 = nI 0) (h1 : gI m (la + 2) 1 = nI 2) (h2 : gI m (la + 2) 2 = nI 6) (h3 : gI m (la + 2) 3 = nI 8) : LwD m la drZ 10 := by
  refine ⟨cdZ, h, Nat.le_refl _, fun k hk => ?_⟩
  rcases (show k = 0 ∨ k = 1 ∨ k = 2 ∨ k = 3 by omega) with rfl | rfl | rfl | rfl
  · exact ⟨0, by decide, h0, fun i c hi => (ap_r (ap_l hi) : (([] : Cs) ++ (([(0, 0), (7, 0)] : Cs) ++ [(1, 0), (0, 4), (5, 0), (7, 0), (0, 1), (7, 0), (1, 7), (7, 0)]))[([] : Cs).length + i]? = some c)⟩
  · exact ⟨2, by decide, h1, fun i c hi => (ap_r (ap_l hi) : (([(0, 0), (7, 0)] : Cs) ++ (([(1, 0), (0, 4), (5, 0), (7, 0)] : Cs) ++ [(0, 1), (7, 0), (1, 7), (7, 0)]))[([(0, 0), (7, 0)] : Cs).length + i]? = some c)⟩
  · exact ⟨6, by decide, h2, fun i c hi => (ap_r (ap_l hi) : (([(0, 0), (7, 0), (1, 0), (0, 4), (5, 0), (7, 0)] : Cs) ++ (([(0, 1), (7, 0)] : Cs) ++ [(1, 7), (7, 0)]))[([(0, 0), (7, 0), (1, 0), (0, 4), (5, 0), (7, 0)] : Cs).length + i]? = some c)⟩
  · exact ⟨8, by decide, h3, fun i c hi => (ap_r (ap_l hi) : (([(0, 0), (7, 0), (1, 0), (0, 4), (5, 0), (7, 0), (0, 1), (7, 0)] : Cs) ++ (([(1, 7), (7, 0)] : Cs) ++ []))[([(0, 0), (7, 0), (1, 0), (0, 4), (5, 0), (7, 0), (0, 1), (7, 0)] : Cs).length + i]? = some c)⟩
abbrev FC (la : Nat) (m m' : Me) : Prop := Fx (fun x => x = la ∨ x = la + 1 ∨ x = la + 2) (fun _ => False) m m'
set_option maxRecDepth 100000 in
set_option maxHeartbeats 8000000 in
theorem ev_lclear {m : Me} {la : Nat} (hl : Wf5 m.1 (gR m) la) : Ev mX5_clear [.ref la] m (fun o m' => o = none ∧ LwD m' la drZ 10 ∧ FC la m m') := by
  refine ⟨plmX5_clear, nle rfl, ?_⟩
  have hs0 := (rfl : gI m (la + 2) = gI m (la + 2))
  have fc : FC la m m := Fx.rf
  refine go_aload_n (q := 0) (i := 0) rfl rfl dX5_clear_0 ?_
  refine go_iconst (v := nI 0) (by decide) dX5_clear_1 ?_
  refine go_putI lf5_27 rfl (Or.inl rfl) hl.o dX5_clear_2 ?_
  generalize hm1 : sI m la (upd (gI m la) 5 (nI 0)) = m1
  have hs0 : gI m1 (la + 2) = gI m (la + 2) := by rw [← hm1, gI_n (by omega)]
  have fc : FC la m m1 := by rw [← hm1]; exact Fx.I fc (Or.inl rfl)
  have hD : LD m1 la [] := ⟨by rw [← hm1, gI_s, upd_same]; rfl, fun i c hi => by cases hi⟩
  have hl : Wf5 m1.1 (gR m1) la := by rw [← hm1]; exact hl
  refine go_aload_n (q := 0) (i := 0) rfl rfl dX5_clear_5 ?_
  refine go_iconst (v := nI 0) (by decide) dX5_clear_6 ?_
  refine go_callV okmX5_startLaw lmX5_31 ⟨nle rfl, nle rfl⟩ hl.o ⟨by decide, rfl⟩ (ev_lstartD hl hD (k := 0) (by decide)) npmX5_startLaw rfl (nle rfl) ⟨nle rfl, nle rfl⟩ dX5_clear_7 ?_
  rintro _ m2 ⟨rfl, he⟩
  have hs1 : gI m2 (la + 2) = (upd (gI m (la + 2)) 0 (nI 0)) := by rw [he, gI_s, hs0]; rfl
  have hs0 := hs1
  have fc : FC la m m2 := by rw [he]; exact Fx.I fc (Or.inr (Or.inr rfl))
  have hD1 : LD m2 la ([] : Cs) := ⟨by rw [he, gI_n (by omega)]; exact hD.1, fun i c hi => by rw [he, gI_n (by omega)]; exact hD.2 i c hi⟩
  have hl : Wf5 m2.1 (gR m2) la := by rw [he]; exact hl
  have hD := hD1
  refine go_c0 ?_
  refine go_aload_n (q := 0) (i := 0) rfl rfl dX5_clear_10 ?_
  refine go_iconst (v := nI 0) (by decide) dX5_clear_11 ?_
  refine go_iconst (v := nI 0) (by decide) dX5_clear_12 ?_
  refine go_callV okmX5_add lmX5_35 ⟨nle rfl, nle rfl⟩ hl.o ⟨by decide, rfl⟩ (ev_laddD hl hD (s := 0) (v := 0) (by decide)) npmX5_add rfl (nle rfl) ⟨nle rfl, nle rfl⟩ dX5_clear_13 ?_
  rintro _ m3 ⟨rfl, hD1, f1⟩
  have hs0 := (f1.at (x := la + 2) (by omega)).trans hs0
  have fc : FC la m m3 := fc.tr (f1.mn (fun x h => by omega) (fun x h => h))
  have hl : Wf5 m3.1 (gR m3) la := f1.to (F := fun q s => Wf5 q s la) hl
  have hD := hD1
  refine go_c0 ?_
  refine go_aload_n (q := 0) (i := 0) rfl rfl dX5_clear_16 ?_
  refine go_bipush (v := nI 7) (by decide) dX5_clear_17 ?_
  refine go_iconst (v := nI 0) (by decide) dX5_clear_19 ?_
  refine go_callV okmX5_add lmX5_35 ⟨nle rfl, nle rfl⟩ hl.o ⟨by decide, rfl⟩ (ev_laddD hl hD (s := 7) (v := 0) (by decide)) npmX5_add rfl (nle rfl) ⟨nle rfl, nle rfl⟩ dX5_clear_20 ?_
  rintro _ m4 ⟨rfl, hD1, f1⟩
  have hs0 := (f1.at (x := la + 2) (by omega)).trans hs0
  have fc : FC la m m4 := fc.tr (f1.mn (fun x h => by omega) (fun x h => h))
  have hl : Wf5 m4.1 (gR m4) la := f1.to (F := fun q s => Wf5 q s la) hl
  have hD := hD1
  refine go_c0 ?_
  refine go_aload_n (q := 0) (i := 0) rfl rfl dX5_clear_23 ?_
  refine go_iconst (v := nI 1) (by decide) dX5_clear_24 ?_
  refine go_callV okmX5_startLaw lmX5_31 ⟨nle rfl, nle rfl⟩ hl.o ⟨by decide, rfl⟩ (ev_lstartD hl hD (k := 1) (by decide)) npmX5_startLaw rfl (nle rfl) ⟨nle rfl, nle rfl⟩ dX5_clear_25 ?_
  rintro _ m5 ⟨rfl, he⟩
  have hs1 : gI m5 (la + 2) = (upd (upd (gI m (la + 2)) 0 (nI 0)) 1 (nI 2)) := by rw [he, gI_s, hs0]; rfl
  have hs0 := hs1
  have fc : FC la m m5 := by rw [he]; exact Fx.I fc (Or.inr (Or.inr rfl))
  have hD1 : LD m5 la (([] : Cs) ++ [(0, 0)] ++ [(7, 0)]) := ⟨by rw [he, gI_n (by omega)]; exact hD.1, fun i c hi => by rw [he, gI_n (by omega)]; exact hD.2 i c hi⟩
  have hl : Wf5 m5.1 (gR m5) la := by rw [he]; exact hl
  have hD := hD1
  refine go_c0 ?_
  refine go_aload_n (q := 0) (i := 0) rfl rfl dX5_clear_28 ?_
  refine go_iconst (v := nI 1) (by decide) dX5_clear_29 ?_
  refine go_iconst (v := nI 0) (by decide) dX5_clear_30 ?_
  refine go_callV okmX5_add lmX5_35 ⟨nle rfl, nle rfl⟩ hl.o ⟨by decide, rfl⟩ (ev_laddD hl hD (s := 1) (v := 0) (by decide)) npmX5_add rfl (nle rfl) ⟨nle rfl, nle rfl⟩ dX5_clear_31 ?_
  rintro _ m6 ⟨rfl, hD1, f1⟩
  have hs0 := (f1.at (x := la + 2) (by omega)).trans hs0
  have fc : FC la m m6 := fc.tr (f1.mn (fun x h => by omega) (fun x h => h))
  have hl : Wf5 m6.1 (gR m6) la := f1.to (F := fun q s => Wf5 q s la) hl
  have hD := hD1
  refine go_c0 ?_
  refine go_aload_n (q := 0) (i := 0) rfl rfl dX5_clear_34 ?_
  refine go_iconst (v := nI 0) (by decide) dX5_clear_35 ?_
  refine go_iconst (v := nI 4) (by decide) dX5_clear_36 ?_
  refine go_callV okmX5_add lmX5_35 ⟨nle rfl, nle rfl⟩ hl.o ⟨by decide, rfl⟩ (ev_laddD hl hD (s := 0) (v := 4) (by decide)) npmX5_add rfl (nle rfl) ⟨nle rfl, nle rfl⟩ dX5_clear_37 ?_
  rintro _ m7 ⟨rfl, hD1, f1⟩
  have hs0 := (f1.at (x := la + 2) (by omega)).trans hs0
  have fc : FC la m m7 := fc.tr (f1.mn (fun x h => by omega) (fun x h => h))
  have hl : Wf5 m7.1 (gR m7) la := f1.to (F := fun q s => Wf5 q s la) hl
  have hD := hD1
  refine go_c0 ?_
  refine go_aload_n (q := 0) (i := 0) rfl rfl dX5_clear_40 ?_
  refine go_iconst (v := nI 5) (by decide) dX5_clear_41 ?_
  refine go_iconst (v := nI 0) (by decide) dX5_clear_42 ?_
  refine go_callV okmX5_add lmX5_35 ⟨nle rfl, nle rfl⟩ hl.o ⟨by decide, rfl⟩ (ev_laddD hl hD (s := 5) (v := 0) (by decide)) npmX5_add rfl (nle rfl) ⟨nle rfl, nle rfl⟩ dX5_clear_43 ?_
  rintro _ m8 ⟨rfl, hD1, f1⟩
  have hs0 := (f1.at (x := la + 2) (by omega)).trans hs0
  have fc : FC la m m8 := fc.tr (f1.mn (fun x h => by omega) (fun x h => h))
  have hl : Wf5 m8.1 (gR m8) la := f1.to (F := fun q s => Wf5 q s la) hl
  have hD := hD1
  refine go_c0 ?_
  refine go_aload_n (q := 0) (i := 0) rfl rfl dX5_clear_46 ?_
  refine go_bipush (v := nI 7) (by decide) dX5_clear_47 ?_
  refine go_iconst (v := nI 0) (by decide) dX5_clear_49 ?_
  refine go_callV okmX5_add lmX5_35 ⟨nle rfl, nle rfl⟩ hl.o ⟨by decide, rfl⟩ (ev_laddD hl hD (s := 7) (v := 0) (by decide)) npmX5_add rfl (nle rfl) ⟨nle rfl, nle rfl⟩ dX5_clear_50 ?_
  rintro _ m9 ⟨rfl, hD1, f1⟩
  have hs0 := (f1.at (x := la + 2) (by omega)).trans hs0
  have fc : FC la m m9 := fc.tr (f1.mn (fun x h => by omega) (fun x h => h))
  have hl : Wf5 m9.1 (gR m9) la := f1.to (F := fun q s => Wf5 q s la) hl
  have hD := hD1
  refine go_c0 ?_
  refine go_aload_n (q := 0) (i := 0) rfl rfl dX5_clear_53 ?_
  refine go_iconst (v := nI 2) (by decide) dX5_clear_54 ?_
  refine go_callV okmX5_startLaw lmX5_31 ⟨nle rfl, nle rfl⟩ hl.o ⟨by decide, rfl⟩ (ev_lstartD hl hD (k := 2) (by decide)) npmX5_startLaw rfl (nle rfl) ⟨nle rfl, nle rfl⟩ dX5_clear_55 ?_
  rintro _ m10 ⟨rfl, he⟩
  have hs1 : gI m10 (la + 2) = (upd (upd (upd (gI m (la + 2)) 0 (nI 0)) 1 (nI 2)) 2 (nI 6)) := by rw [he, gI_s, hs0]; rfl
  have hs0 := hs1
  have fc : FC la m m10 := by rw [he]; exact Fx.I fc (Or.inr (Or.inr rfl))
  have hD1 : LD m10 la (([] : Cs) ++ [(0, 0)] ++ [(7, 0)] ++ [(1, 0)] ++ [(0, 4)] ++ [(5, 0)] ++ [(7, 0)]) := ⟨by rw [he, gI_n (by omega)]; exact hD.1, fun i c hi => by rw [he, gI_n (by omega)]; exact hD.2 i c hi⟩
  have hl : Wf5 m10.1 (gR m10) la := by rw [he]; exact hl
  have hD := hD1
  refine go_c0 ?_
  refine go_aload_n (q := 0) (i := 0) rfl rfl dX5_clear_58 ?_
  refine go_iconst (v := nI 0) (by decide) dX5_clear_59 ?_
  refine go_iconst (v := nI 1) (by decide) dX5_clear_60 ?_
  refine go_callV okmX5_add lmX5_35 ⟨nle rfl, nle rfl⟩ hl.o ⟨by decide, rfl⟩ (ev_laddD hl hD (s := 0) (v := 1) (by decide)) npmX5_add rfl (nle rfl) ⟨nle rfl, nle rfl⟩ dX5_clear_61 ?_
  rintro _ m11 ⟨rfl, hD1, f1⟩
  have hs0 := (f1.at (x := la + 2) (by omega)).trans hs0
  have fc : FC la m m11 := fc.tr (f1.mn (fun x h => by omega) (fun x h => h))
  have hl : Wf5 m11.1 (gR m11) la := f1.to (F := fun q s => Wf5 q s la) hl
  have hD := hD1
  refine go_c0 ?_
  refine go_aload_n (q := 0) (i := 0) rfl rfl dX5_clear_64 ?_
  refine go_bipush (v := nI 7) (by decide) dX5_clear_65 ?_
  refine go_iconst (v := nI 0) (by decide) dX5_clear_67 ?_
  refine go_callV okmX5_add lmX5_35 ⟨nle rfl, nle rfl⟩ hl.o ⟨by decide, rfl⟩ (ev_laddD hl hD (s := 7) (v := 0) (by decide)) npmX5_add rfl (nle rfl) ⟨nle rfl, nle rfl⟩ dX5_clear_68 ?_
  rintro _ m12 ⟨rfl, hD1, f1⟩
  have hs0 := (f1.at (x := la + 2) (by omega)).trans hs0
  have fc : FC la m m12 := fc.tr (f1.mn (fun x h => by omega) (fun x h => h))
  have hl : Wf5 m12.1 (gR m12) la := f1.to (F := fun q s => Wf5 q s la) hl
  have hD := hD1
  refine go_c0 ?_
  refine go_aload_n (q := 0) (i := 0) rfl rfl dX5_clear_71 ?_
  refine go_iconst (v := nI 3) (by decide) dX5_clear_72 ?_
  refine go_callV okmX5_startLaw lmX5_31 ⟨nle rfl, nle rfl⟩ hl.o ⟨by decide, rfl⟩ (ev_lstartD hl hD (k := 3) (by decide)) npmX5_startLaw rfl (nle rfl) ⟨nle rfl, nle rfl⟩ dX5_clear_73 ?_
  rintro _ m13 ⟨rfl, he⟩
  have hs1 : gI m13 (la + 2) = (upd (upd (upd (upd (gI m (la + 2)) 0 (nI 0)) 1 (nI 2)) 2 (nI 6)) 3 (nI 8)) := by rw [he, gI_s, hs0]; rfl
  have hs0 := hs1
  have fc : FC la m m13 := by rw [he]; exact Fx.I fc (Or.inr (Or.inr rfl))
  have hD1 : LD m13 la (([] : Cs) ++ [(0, 0)] ++ [(7, 0)] ++ [(1, 0)] ++ [(0, 4)] ++ [(5, 0)] ++ [(7, 0)] ++ [(0, 1)] ++ [(7, 0)]) := ⟨by rw [he, gI_n (by omega)]; exact hD.1, fun i c hi => by rw [he, gI_n (by omega)]; exact hD.2 i c hi⟩
  have hl : Wf5 m13.1 (gR m13) la := by rw [he]; exact hl
  have hD := hD1
  refine go_c0 ?_
  refine go_aload_n (q := 0) (i := 0) rfl rfl dX5_clear_76 ?_
  refine go_iconst (v := nI 1) (by decide) dX5_clear_77 ?_
  refine go_bipush (v := nI 7) (by decide) dX5_clear_78 ?_
  refine go_callV okmX5_add lmX5_35 ⟨nle rfl, nle rfl⟩ hl.o ⟨by decide, rfl⟩ (ev_laddD hl hD (s := 1) (v := 7) (by decide)) npmX5_add rfl (nle rfl) ⟨nle rfl, nle rfl⟩ dX5_clear_80 ?_
  rintro _ m14 ⟨rfl, hD1, f1⟩
  have hs0 := (f1.at (x := la + 2) (by omega)).trans hs0
  have fc : FC la m m14 := fc.tr (f1.mn (fun x h => by omega) (fun x h => h))
  have hl : Wf5 m14.1 (gR m14) la := f1.to (F := fun q s => Wf5 q s la) hl
  have hD := hD1
  refine go_c0 ?_
  refine go_aload_n (q := 0) (i := 0) rfl rfl dX5_clear_83 ?_
  refine go_bipush (v := nI 7) (by decide) dX5_clear_84 ?_
  refine go_iconst (v := nI 0) (by decide) dX5_clear_86 ?_
  refine go_callV okmX5_add lmX5_35 ⟨nle rfl, nle rfl⟩ hl.o ⟨by decide, rfl⟩ (ev_laddD hl hD (s := 7) (v := 0) (by decide)) npmX5_add rfl (nle rfl) ⟨nle rfl, nle rfl⟩ dX5_clear_87 ?_
  rintro _ m15 ⟨rfl, hD1, f1⟩
  have hs0 := (f1.at (x := la + 2) (by omega)).trans hs0
  have fc : FC la m m15 := fc.tr (f1.mn (fun x h => by omega) (fun x h => h))
  have hl : Wf5 m15.1 (gR m15) la := f1.to (F := fun q s => Wf5 q s la) hl
  have hD := hD1
  refine go_c0 ?_
  refine go_vret rfl ⟨Nat.zero_le _, Nat.zero_le _⟩ dX5_clear_90 ?_
  refine ⟨rfl, LwD.z hD ?_ ?_ ?_ ?_, fc⟩ <;> rw [hs0]
  · rw [upd_ne (by decide), upd_ne (by decide), upd_ne (by decide), upd_same]
  · rw [upd_ne (by decide), upd_ne (by decide), upd_same]
  · rw [upd_ne (by decide), upd_same]
  · rw [upd_same]
/-- a plan that tells nothing -/
def PzC (m : Me) (dr : Nat) : Prop := (gI m dr 0 = nI 0 ∧ gI m dr 1 = nI 0 ∧ gI m dr 2 = nI 0 ∧ gI m dr 3 = nI 0 ∧ gI m dr 4 = nI 0 ∧ gI m dr 5 = nI 0 ∧ gI m dr 6 = nI 3 ∧ gI m dr 7 = nI 0) ∧ (∀ c, c < 40 → gI m (dr + 1) c = -1) ∧ (∀ c, c < 40 → gI m (dr + 2) c = nI 0) ∧ (∀ h, h < 4 → gI m (dr + 3) h = nI 0 ∧ gI m (dr + 4) h = nI 0) ∧ LwD m (dr + 9) drZ 10
abbrev FP (dr : Nat) (m m' : Me) : Prop := Fx (fun x => dr ≤ x ∧ x ≤ dr + 14) (fun _ => False) m m'
theorem PzC.dr {m : Me} {dr : Nat} (h : PzC m dr) (h2 : gI m 10 2 = -1) (h3 : gI m 10 3 = -1) : DrC m dr drZ 10 := by
  obtain ⟨⟨a0, a1, a2, a3, a4, a5, a6, a7⟩, b, c, d, e⟩ := h
  refine ⟨⟨a0, a1, a2, a3, a4, a5, a6, a7⟩, fun k hk => ?_, c, fun h hh => by
    show _ = (if 10 + h = 1 then nI 3 else nI 0) ∧ _ = (if 20 + h = 1 then nI 3 else nI 0)
    rw [if_neg (by omega), if_neg (by omega)]
    exact d h hh, fun u hu => absurd hu (Nat.not_lt_zero u), ⟨Nat.zero_le _, Nat.zero_le _, fun h hh => absurd hh (Nat.not_lt_zero h), fun u hu => absurd hu (Nat.not_lt_zero u)⟩, ⟨?_, ?_⟩, e⟩
  · rw [b k hk, if_neg (fun q => absurd q.1 (Nat.not_lt_zero _))]
  · rw [h2]; decide
  · rw [h3]; decide
set_option maxRecDepth 100000 in
set_option maxHeartbeats 8000000 in
theorem ev_pclear {m : Me} {dr : Nat} (hp : Wf7 m.1 (gR m) dr) (hdr : dr = 226 ∨ dr = 241) : Ev mX7_clear [.ref dr] m (fun o m' => o = none ∧ PzC m' dr ∧ FP dr m m') := by
  refine ⟨plmX7_clear, nle rfl, ?_⟩
  have fp : FP dr m m := Fx.rf
  refine go_aload_n (q := 0) (i := 0) rfl rfl dX7_clear_0 ?_
  refine go_iconst (v := nI 0) (by decide) dX7_clear_1 ?_
  refine go_putI lf7_46 rfl (Or.inl rfl) hp.o dX7_clear_2 ?_
  generalize hmE : sI m dr (upd (gI m dr) 0 (nI 0)) = m1
  have e0 : gI m1 dr = upd (gI m dr) 0 (nI 0) := by rw [← hmE, gI_s]
  have fp : FP dr m m1 := by rw [← hmE]; exact Fx.I fp ⟨by omega, by omega⟩
  have hp : Wf7 m1.1 (gR m1) dr := by rw [← hmE]; exact hp
  clear hmE
  refine go_aload_n (q := 0) (i := 0) rfl rfl dX7_clear_5 ?_
  refine go_iconst (v := nI 0) (by decide) dX7_clear_6 ?_
  refine go_putI lf7_50 rfl (Or.inl rfl) hp.o dX7_clear_7 ?_
  generalize hmE : sI m1 dr (upd (gI m1 dr) 1 (nI 0)) = m2
  have e1 : gI m2 dr = upd (gI m1 dr) 1 (nI 0) := by rw [← hmE, gI_s]
  have fp : FP dr m m2 := by rw [← hmE]; exact Fx.I fp ⟨by omega, by omega⟩
  have hp : Wf7 m2.1 (gR m2) dr := by rw [← hmE]; exact hp
  clear hmE
  refine go_aload_n (q := 0) (i := 0) rfl rfl dX7_clear_10 ?_
  refine go_iconst (v := nI 0) (by decide) dX7_clear_11 ?_
  refine go_putI lf7_53 rfl (Or.inl rfl) hp.o dX7_clear_12 ?_
  generalize hmE : sI m2 dr (upd (gI m2 dr) 2 (nI 0)) = m3
  have e2 : gI m3 dr = upd (gI m2 dr) 2 (nI 0) := by rw [← hmE, gI_s]
  have fp : FP dr m m3 := by rw [← hmE]; exact Fx.I fp ⟨by omega, by omega⟩
  have hp : Wf7 m3.1 (gR m3) dr := by rw [← hmE]; exact hp
  clear hmE
  refine go_aload_n (q := 0) (i := 0) rfl rfl dX7_clear_15 ?_
  refine go_iconst (v := nI 0) (by decide) dX7_clear_16 ?_
  refine go_putI lf7_56 rfl (Or.inl rfl) hp.o dX7_clear_17 ?_
  generalize hmE : sI m3 dr (upd (gI m3 dr) 3 (nI 0)) = m4
  have e3 : gI m4 dr = upd (gI m3 dr) 3 (nI 0) := by rw [← hmE, gI_s]
  have fp : FP dr m m4 := by rw [← hmE]; exact Fx.I fp ⟨by omega, by omega⟩
  have hp : Wf7 m4.1 (gR m4) dr := by rw [← hmE]; exact hp
  clear hmE
  refine go_aload_n (q := 0) (i := 0) rfl rfl dX7_clear_20 ?_
  refine go_iconst (v := nI 0) (by decide) dX7_clear_21 ?_
  refine go_putI lf7_59 rfl (Or.inl rfl) hp.o dX7_clear_22 ?_
  generalize hmE : sI m4 dr (upd (gI m4 dr) 4 (nI 0)) = m5
  have e4 : gI m5 dr = upd (gI m4 dr) 4 (nI 0) := by rw [← hmE, gI_s]
  have fp : FP dr m m5 := by rw [← hmE]; exact Fx.I fp ⟨by omega, by omega⟩
  have hp : Wf7 m5.1 (gR m5) dr := by rw [← hmE]; exact hp
  clear hmE
  refine go_aload_n (q := 0) (i := 0) rfl rfl dX7_clear_25 ?_
  refine go_iconst (v := nI 0) (by decide) dX7_clear_26 ?_
  refine go_putI lf7_62 rfl (Or.inl rfl) hp.o dX7_clear_27 ?_
  generalize hmE : sI m5 dr (upd (gI m5 dr) 5 (nI 0)) = m6
  have e5 : gI m6 dr = upd (gI m5 dr) 5 (nI 0) := by rw [← hmE, gI_s]
  have fp : FP dr m m6 := by rw [← hmE]; exact Fx.I fp ⟨by omega, by omega⟩
  have hp : Wf7 m6.1 (gR m6) dr := by rw [← hmE]; exact hp
  clear hmE
  refine go_aload_n (q := 0) (i := 0) rfl rfl dX7_clear_30 ?_
  refine go_iconst (v := nI 3) (by decide) dX7_clear_31 ?_
  refine go_putI lf7_65 rfl (Or.inl rfl) hp.o dX7_clear_32 ?_
  generalize hmE : sI m6 dr (upd (gI m6 dr) 6 (nI 3)) = m7
  have e6 : gI m7 dr = upd (gI m6 dr) 6 (nI 3) := by rw [← hmE, gI_s]
  have fp : FP dr m m7 := by rw [← hmE]; exact Fx.I fp ⟨by omega, by omega⟩
  have hp : Wf7 m7.1 (gR m7) dr := by rw [← hmE]; exact hp
  clear hmE
  refine go_aload_n (q := 0) (i := 0) rfl rfl dX7_clear_35 ?_
  refine go_iconst (v := nI 0) (by decide) dX7_clear_36 ?_
  refine go_putI lf7_68 rfl (Or.inl rfl) hp.o dX7_clear_37 ?_
  generalize hmE : sI m7 dr (upd (gI m7 dr) 7 (nI 0)) = m8
  have e7 : gI m8 dr = upd (gI m7 dr) 7 (nI 0) := by rw [← hmE, gI_s]
  have fp : FP dr m m8 := by rw [← hmE]; exact Fx.I fp ⟨by omega, by omega⟩
  have hp : Wf7 m8.1 (gR m8) dr := by rw [← hmE]; exact hp
  clear hmE
  have ed : gI m8 dr = gI m8 dr := rfl
  refine go_aload_n (q := 0) (i := 0) rfl rfl dX7_clear_40 ?_
  refine go_getR lf7_9 rfl hp.o hp.r8 dX7_clear_41 ?_
  refine go_iconst (v := -1) (by decide) dX7_clear_44 ?_
  refine go_callS okmX11_fill lmX7_71 ⟨nle rfl, nle rfl⟩ (ev_fill (by decide) hp.i8) npmX11_fill rfl (nle rfl) ⟨nle rfl, nle rfl⟩ dX7_clear_45 ?_
  rintro _ m9 ⟨rfl, he⟩
  have fp : FP dr m m9 := by rw [he]; exact Fx.I fp ⟨by omega, by omega⟩
  have hp : Wf7 m9.1 (gR m9) dr := by rw [he]; exact hp
  have r1 : ∀ k, k < 40 → gI m9 (dr + 1) k = -1 := fun k hk => by rw [he, gI_s, cp_in hk]
  have ed : gI m9 dr = gI m8 dr := (show gI m9 dr = gI m8 dr by rw [he, gI_n (by omega)]).trans ed
  clear he
  refine go_c0 ?_
  refine go_aload_n (q := 0) (i := 0) rfl rfl dX7_clear_48 ?_
  refine go_getR lf7_15 rfl hp.o hp.r9 dX7_clear_49 ?_
  refine go_iconst (v := nI 0) (by decide) dX7_clear_52 ?_
  refine go_callS okmX11_fill lmX7_71 ⟨nle rfl, nle rfl⟩ (ev_fill (by decide) hp.i9) npmX11_fill rfl (nle rfl) ⟨nle rfl, nle rfl⟩ dX7_clear_53 ?_
  rintro _ m10 ⟨rfl, he⟩
  have fp : FP dr m m10 := by rw [he]; exact Fx.I fp ⟨by omega, by omega⟩
  have hp : Wf7 m10.1 (gR m10) dr := by rw [he]; exact hp
  have r2 : ∀ k, k < 40 → gI m10 (dr + 2) k = nI 0 := fun k hk => by rw [he, gI_s, cp_in hk]
  have ed : gI m10 dr = gI m8 dr := (show gI m10 dr = gI m9 dr by rw [he, gI_n (by omega)]).trans ed
  have r1 : ∀ k, k < 40 → gI m10 (dr + 1) k = -1 := fun k hk => by rw [he, gI_n (by omega)]; exact r1 k hk
  clear he
  refine go_c0 ?_
  refine go_aload_n (q := 0) (i := 0) rfl rfl dX7_clear_56 ?_
  refine go_getR lf7_18 rfl hp.o hp.r10 dX7_clear_57 ?_
  refine go_iconst (v := nI 0) (by decide) dX7_clear_60 ?_
  refine go_callS okmX11_fill lmX7_71 ⟨nle rfl, nle rfl⟩ (ev_fill (by decide) hp.i10) npmX11_fill rfl (nle rfl) ⟨nle rfl, nle rfl⟩ dX7_clear_61 ?_
  rintro _ m11 ⟨rfl, he⟩
  have fp : FP dr m m11 := by rw [he]; exact Fx.I fp ⟨by omega, by omega⟩
  have hp : Wf7 m11.1 (gR m11) dr := by rw [he]; exact hp
  have r3 : ∀ k, k < 4 → gI m11 (dr + 3) k = nI 0 := fun k hk => by rw [he, gI_s, cp_in hk]
  have ed : gI m11 dr = gI m8 dr := (show gI m11 dr = gI m10 dr by rw [he, gI_n (by omega)]).trans ed
  have r1 : ∀ k, k < 40 → gI m11 (dr + 1) k = -1 := fun k hk => by rw [he, gI_n (by omega)]; exact r1 k hk
  have r2 : ∀ k, k < 40 → gI m11 (dr + 2) k = nI 0 := fun k hk => by rw [he, gI_n (by omega)]; exact r2 k hk
  clear he
  refine go_c0 ?_
  refine go_aload_n (q := 0) (i := 0) rfl rfl dX7_clear_64 ?_
  refine go_getR lf7_21 rfl hp.o hp.r11 dX7_clear_65 ?_
  refine go_iconst (v := nI 0) (by decide) dX7_clear_68 ?_
  refine go_callS okmX11_fill lmX7_71 ⟨nle rfl, nle rfl⟩ (ev_fill (by decide) hp.i11) npmX11_fill rfl (nle rfl) ⟨nle rfl, nle rfl⟩ dX7_clear_69 ?_
  rintro _ m12 ⟨rfl, he⟩
  have fp : FP dr m m12 := by rw [he]; exact Fx.I fp ⟨by omega, by omega⟩
  have hp : Wf7 m12.1 (gR m12) dr := by rw [he]; exact hp
  have r4 : ∀ k, k < 4 → gI m12 (dr + 4) k = nI 0 := fun k hk => by rw [he, gI_s, cp_in hk]
  have ed : gI m12 dr = gI m8 dr := (show gI m12 dr = gI m11 dr by rw [he, gI_n (by omega)]).trans ed
  have r1 : ∀ k, k < 40 → gI m12 (dr + 1) k = -1 := fun k hk => by rw [he, gI_n (by omega)]; exact r1 k hk
  have r2 : ∀ k, k < 40 → gI m12 (dr + 2) k = nI 0 := fun k hk => by rw [he, gI_n (by omega)]; exact r2 k hk
  have r3 : ∀ k, k < 4 → gI m12 (dr + 3) k = nI 0 := fun k hk => by rw [he, gI_n (by omega)]; exact r3 k hk
  clear he
  refine go_c0 ?_
  refine go_aload_n (q := 0) (i := 0) rfl rfl dX7_clear_72 ?_
  refine go_getR lf7_39 rfl hp.o hp.r16 dX7_clear_73 ?_
  refine go_callV okmX5_clear lmX7_75 ⟨nle rfl, nle rfl⟩ hp.w16.o ⟨by decide, rfl⟩ (ev_lclear hp.w16) npmX5_clear rfl (nle rfl) ⟨nle rfl, nle rfl⟩ dX7_clear_76 ?_
  rintro _ m13 ⟨rfl, hlw, f1⟩
  refine go_c0 ?_
  refine go_vret rfl ⟨Nat.zero_le _, Nat.zero_le _⟩ dX7_clear_79 ?_
  refine ⟨rfl, ⟨⟨?_, ?_, ?_, ?_, ?_, ?_, ?_, ?_⟩, fun c hc => by rw [f1.at (by omega)]; exact r1 c hc, fun c hc => by rw [f1.at (by omega)]; exact r2 c hc, fun h hh => ⟨by rw [f1.at (by omega)]; exact r3 h hh, by rw [f1.at (by omega)]; exact r4 h hh⟩, hlw⟩, fp.tr (f1.mn (fun x h => by omega) (fun x h => h))⟩
  · rw [f1.at (by omega), ed, e7, upd_ne (by decide), e6, upd_ne (by decide), e5, upd_ne (by decide), e4, upd_ne (by decide), e3, upd_ne (by decide), e2, upd_ne (by decide), e1, upd_ne (by decide), e0, upd_same]
  · rw [f1.at (by omega), ed, e7, upd_ne (by decide), e6, upd_ne (by decide), e5, upd_ne (by decide), e4, upd_ne (by decide), e3, upd_ne (by decide), e2, upd_ne (by decide), e1, upd_same]
  · rw [f1.at (by omega), ed, e7, upd_ne (by decide), e6, upd_ne (by decide), e5, upd_ne (by decide), e4, upd_ne (by decide), e3, upd_ne (by decide), e2, upd_same]
  · rw [f1.at (by omega), ed, e7, upd_ne (by decide), e6, upd_ne (by decide), e5, upd_ne (by decide), e4, upd_ne (by decide), e3, upd_same]
  · rw [f1.at (by omega), ed, e7, upd_ne (by decide), e6, upd_ne (by decide), e5, upd_ne (by decide), e4, upd_same]
  · rw [f1.at (by omega), ed, e7, upd_ne (by decide), e6, upd_ne (by decide), e5, upd_same]
  · rw [f1.at (by omega), ed, e7, upd_ne (by decide), e6, upd_same]
  · rw [f1.at (by omega), ed, e7, upd_same]
set_option maxRecDepth 100000 in
set_option maxHeartbeats 8000000 in
theorem ev_hasAll {m : Me} {dr : Nat} (hp : Wf7 m.1 (gR m) dr) : Ev mX7_hasHoldingsOfAllCells [.ref dr] m (fun o m' => o = some (.int (pit (∀ c, c < 40 → gI m (dr + 1) c < gI m dr 2 ∨ gI m (dr + 1) c = nI 9) (nI 1) (nI 0))) ∧ m' = m) := by
  refine ⟨plmX7_hasHoldingsOfAllCells, nle rfl, ?_⟩
  have key : ∀ i, i ≤ 40 → (∀ c, c < i → gI m (dr + 1) c < gI m dr 2 ∨ gI m (dr + 1) c = nI 9) → Go mX7_hasHoldingsOfAllCells (fun o m' => o = some (.int (pit (∀ c, c < 40 → gI m (dr + 1) c < gI m dr 2 ∨ gI m (dr + 1) c = nI 9) (nI 1) (nI 0))) ∧ m' = m) 2 [some (.ref dr), some (.int (nI i))] [] m 0 0 := by
    refine loop_up 40 ?_ ?_
    · intro hn
      refine go_iload_n (q := 1) (i := 1) rfl rfl dX7_hasHoldingsOfAllCells_2 ?_
      refine go_bipush (v := nI 40) (by decide) dX7_hasHoldingsOfAllCells_3 ?_
      refine gn_ge (by omega) (by omega) (tgt := 40) dX7_hasHoldingsOfAllCells_5 (by decide) (fun h5 => ?_) (fun h5 => by exfalso; omega)
      refine go_iconst (v := nI 1) (by decide) dX7_hasHoldingsOfAllCells_40 ?_
      refine go_zret rfl (by decide) ⟨Nat.zero_le _, Nat.zero_le _⟩ dX7_hasHoldingsOfAllCells_41 ?_
      rw [pit_t hn]
      exact ⟨rfl, rfl⟩
    · intro i hi ih hn
      refine go_iload_n (q := 1) (i := 1) rfl rfl dX7_hasHoldingsOfAllCells_2 ?_
      refine go_bipush (v := nI 40) (by decide) dX7_hasHoldingsOfAllCells_3 ?_
      refine gn_ge (by omega) (by omega) (tgt := 40) dX7_hasHoldingsOfAllCells_5 (by decide) (fun h5 => by exfalso; omega) (fun h5 => ?_)
      refine go_aload_n (q := 0) (i := 0) rfl rfl dX7_hasHoldingsOfAllCells_8 ?_
      refine go_getR lf7_9 rfl hp.o hp.r8 dX7_hasHoldingsOfAllCells_9 ?_
      refine go_iload_n (q := 1) (i := 1) rfl rfl dX7_hasHoldingsOfAllCells_12 ?_
      refine go_iald (j := i) hp.i8 (by omega) (by first | decide | omega) rfl dX7_hasHoldingsOfAllCells_13 ?_
      refine go_aload_n (q := 0) (i := 0) rfl rfl dX7_hasHoldingsOfAllCells_14 ?_
      refine go_getI lf7_53 rfl hp.o dX7_hasHoldingsOfAllCells_15 ?_
      refine go_icmp_lt (tgt := 34) dX7_hasHoldingsOfAllCells_18 (by decide) (fun h18 => ?_) (fun h18 => ?_)
      · skip
        refine gn_inc (i := 1) (a := i) (q := 1) rfl dX7_hasHoldingsOfAllCells_34 (nle rfl) rfl ?_
        refine go_goto (tgt := 2) dX7_hasHoldingsOfAllCells_37 (by decide) ?_
        refine ih (fun c hc => ?_)
        by_cases e : c = i
        · rw [e]; exact Or.inl h18
        · exact hn c (by omega)
      · skip
        refine go_aload_n (q := 0) (i := 0) rfl rfl dX7_hasHoldingsOfAllCells_21 ?_
        refine go_getR lf7_9 rfl hp.o hp.r8 dX7_hasHoldingsOfAllCells_22 ?_
        refine go_iload_n (q := 1) (i := 1) rfl rfl dX7_hasHoldingsOfAllCells_25 ?_
        refine go_iald (j := i) hp.i8 (by omega) (by first | decide | omega) rfl dX7_hasHoldingsOfAllCells_26 ?_
        refine go_bipush (v := nI 9) (by decide) dX7_hasHoldingsOfAllCells_27 ?_
        refine go_icmp_eq (tgt := 34) dX7_hasHoldingsOfAllCells_29 (by decide) (fun h29 => ?_) (fun h29 => ?_)
        · skip
          refine gn_inc (i := 1) (a := i) (q := 1) rfl dX7_hasHoldingsOfAllCells_34 (nle rfl) rfl ?_
          refine go_goto (tgt := 2) dX7_hasHoldingsOfAllCells_37 (by decide) ?_
          refine ih (fun c hc => ?_)
          by_cases e : c = i
          · rw [e]; exact Or.inr h29
          · exact hn c (by omega)
        · skip
          refine go_iconst (v := nI 0) (by decide) dX7_hasHoldingsOfAllCells_32 ?_
          refine go_zret rfl (by decide) ⟨Nat.zero_le _, Nat.zero_le _⟩ dX7_hasHoldingsOfAllCells_33 ?_
          rw [pit_f (fun q => (q i hi).elim (fun a => h18 a) (fun a => h29 a))]
          exact ⟨rfl, rfl⟩
  refine go_iconst (v := nI 0) (by decide) dX7_hasHoldingsOfAllCells_0 ?_
  refine go_istore_n (q := 1) (i := 1) rfl dX7_hasHoldingsOfAllCells_1 (nle rfl) (nle rfl) ?_
  exact key 0 (Nat.zero_le _) (fun c hc => absurd hc (Nat.not_lt_zero c))
