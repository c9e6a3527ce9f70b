set_option maxRecDepth 100000 in
set_option maxHeartbeats 4000000 in
theorem ev_lstart {m : Me} {la : Nat} {W : List Nat} {D : List (Nat × Nat)} (hl : Wf5 m.1 (gR m) la) (h : LC m la W D) {k : Nat} (hk : k < 4) : Ev mX5_startLaw [.ref la, .int (nI k)] m (fun o m' => o = none ∧ m' = sI m (la + 2) (upd (gI m (la + 2)) k (nI D.length))) := by
  refine ⟨plmX5_startLaw, nle rfl, ?_⟩
  refine go_iload_n (q := 1) (i := 1) rfl rfl dX5_startLaw_0 ?_
  refine gz_lt (by omega) (tgt := 19) dX5_startLaw_1 (by decide) (fun h1 => by exfalso; omega) (fun h1 => ?_)
  refine go_iload_n (q := 1) (i := 1) rfl rfl dX5_startLaw_4 ?_
  refine go_iconst (v := nI 4) (by decide) dX5_startLaw_5 ?_
  refine gn_ge (by omega) (by omega) (tgt := 19) dX5_startLaw_6 (by decide) (fun h6 => by exfalso; omega) (fun h6 => ?_)
  refine go_aload_n (q := 0) (i := 0) rfl rfl dX5_startLaw_9 ?_
  refine go_getR lf5_15 rfl hl.o hl.r1 dX5_startLaw_10 ?_
  refine go_iload_n (q := 1) (i := 1) rfl rfl dX5_startLaw_13 ?_
  refine go_aload_n (q := 0) (i := 0) rfl rfl dX5_startLaw_14 ?_
  refine go_getI lf5_27 rfl hl.o dX5_startLaw_15 ?_
  rw [h.1]
  refine go_iast (j := k) hl.i1 (by omega) (by first | decide | omega) rfl dX5_startLaw_18 ?_
  refine go_vret rfl ⟨Nat.zero_le _, Nat.zero_le _⟩ dX5_startLaw_19 ?_
  exact ⟨rfl, rfl⟩
set_option maxRecDepth 100000 in
set_option maxHeartbeats 4000000 in
theorem ev_laim {m : Me} {la : Nat} {W : List Nat} {D : List (Nat × Nat)} (hl : Wf5 m.1 (gR m) la) (h : LC m la W D) {j t : Nat} (hj : j < D.length) (hd : D.length ≤ 420) : Ev mX5_aim [.ref la, .int (nI j), .int (nI t)] m (fun o m' => o = none ∧ LC m' la W (D.set j (6, t)) ∧ FL la m m') := by
  refine ⟨plmX5_aim, nle rfl, ?_⟩
  refine go_iload_n (q := 1) (i := 1) rfl rfl dX5_aim_0 ?_
  refine gz_lt (by omega) (tgt := 21) dX5_aim_1 (by decide) (fun h1 => by exfalso; omega) (fun h1 => ?_)
  refine go_iload_n (q := 1) (i := 1) rfl rfl dX5_aim_4 ?_
  refine go_sipush (v := nI 420) (by decide) dX5_aim_5 ?_
  refine gn_ge (by omega) (by omega) (tgt := 21) dX5_aim_8 (by decide) (fun h8 => by exfalso; omega) (fun h8 => ?_)
  refine go_aload_n (q := 0) (i := 0) rfl rfl dX5_aim_11 ?_
  refine go_getR lf5_9 rfl hl.o hl.r0 dX5_aim_12 ?_
  refine go_iload_n (q := 1) (i := 1) rfl rfl dX5_aim_15 ?_
  refine go_ldc (wg4 8 rfl rfl) dX5_aim_16 ?_
  refine go_iload_n (q := 2) (i := 2) rfl rfl dX5_aim_18 ?_
  refine go_ior dX5_aim_19 ?_
  refine go_iast (j := j) hl.i0 (by omega) (by first | decide | omega) rfl dX5_aim_20 ?_
  refine go_vret rfl ⟨Nat.zero_le _, Nat.zero_le _⟩ dX5_aim_21 ?_
  refine ⟨rfl, ⟨?_, fun i c hi => ?_, ?_, fun i k hi => ?_⟩, Fx.I Fx.rf (Or.inr (Or.inl rfl))⟩
  · rw [gI_n (by omega), List.length_set]; exact h.1
  · rw [gI_s]
    by_cases e : i = j
    · subst e
      rw [List.getElem?_set_self hj] at hi
      cases hi
      rw [upd_same]
      rfl
    · rw [upd_ne e]
      rw [List.getElem?_set_ne (fun z => e z.symm)] at hi
      exact h.2.1 i c hi
  · rw [gI_n (by omega)]; exact h.2.2.1
  · rw [gI_n (by omega)]; exact h.2.2.2 i k hi
