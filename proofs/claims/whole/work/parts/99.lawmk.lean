/-- a word of the code -/
def cw (c : Nat × Nat) : Int32 := (nI c.1 <<< (nI 16 &&& 31)) ||| nI c.2
/-- the laws, as they are made: what waits, and the code so far -/
def LC (m : Me) (la : Nat) (W : List Nat) (D : List (Nat × Nat)) : Prop := gI m la 5 = nI D.length ∧ (∀ i c, D[i]? = some c → gI m (la + 1) i = cw c) ∧ gI m la 6 = nI W.length ∧ ∀ i k, W.reverse[i]? = some k → gI m (la + 5) i = nI k
abbrev FL (la : Nat) (m m' : Me) : Prop := Fx (fun x => x = la ∨ x = la + 1 ∨ x = la + 5) (fun _ => False) m m'
set_option maxRecDepth 100000 in
set_option maxHeartbeats 4000000 in
theorem ev_rank {m : Me} {k : Nat} (hk : k ≤ 100) : Ev mX5_rank [.int (nI k)] m (fun o m' => o = some (.int (nI (rnk k))) ∧ m' = m) := by
  refine ⟨plmX5_rank, nle rfl, ?_⟩
  refine go_iload_n (q := 0) (i := 0) rfl rfl dX5_rank_0 ?_
  refine go_bipush (v := nI 29) (by decide) dX5_rank_1 ?_
  refine gn_eq (by omega) (by omega) (tgt := 12) dX5_rank_3 (by decide) (fun h3 => ?_) (fun h3 => ?_)
  · skip
    refine go_iconst (v := nI 2) (by decide) dX5_rank_12 ?_
    refine go_iret rfl ⟨Nat.zero_le _, Nat.zero_le _⟩ dX5_rank_13 ?_
    refine ⟨?_, rfl⟩
    unfold rnk
    rw [if_pos (by omega)]
  · skip
    refine go_iload_n (q := 0) (i := 0) rfl rfl dX5_rank_6 ?_
    refine go_bipush (v := nI 30) (by decide) dX5_rank_7 ?_
    refine gn_ne (by omega) (by omega) (tgt := 14) dX5_rank_9 (by decide) (fun h9 => ?_) (fun h9 => ?_)
    · skip
      refine go_iload_n (q := 0) (i := 0) rfl rfl dX5_rank_14 ?_
      refine go_bipush (v := nI 27) (by decide) dX5_rank_15 ?_
      refine gn_eq (by omega) (by omega) (tgt := 26) dX5_rank_17 (by decide) (fun h17 => ?_) (fun h17 => ?_)
      · skip
        refine go_iconst (v := nI 1) (by decide) dX5_rank_26 ?_
        refine go_goto (tgt := 31) dX5_rank_27 (by decide) ?_
        refine go_iret rfl ⟨Nat.zero_le _, Nat.zero_le _⟩ dX5_rank_31 ?_
        refine ⟨?_, rfl⟩
        unfold rnk
        rw [if_neg (by omega), if_pos (by omega)]
      · skip
        refine go_iload_n (q := 0) (i := 0) rfl rfl dX5_rank_20 ?_
        refine go_bipush (v := nI 28) (by decide) dX5_rank_21 ?_
        refine gn_ne (by omega) (by omega) (tgt := 30) dX5_rank_23 (by decide) (fun h23 => ?_) (fun h23 => ?_)
        · skip
          refine go_iconst (v := nI 0) (by decide) dX5_rank_30 ?_
          refine go_iret rfl ⟨Nat.zero_le _, Nat.zero_le _⟩ dX5_rank_31 ?_
          refine ⟨?_, rfl⟩
          unfold rnk
          rw [if_neg (by omega), if_neg (by omega)]
        · skip
          refine go_iconst (v := nI 1) (by decide) dX5_rank_26 ?_
          refine go_goto (tgt := 31) dX5_rank_27 (by decide) ?_
          refine go_iret rfl ⟨Nat.zero_le _, Nat.zero_le _⟩ dX5_rank_31 ?_
          refine ⟨?_, rfl⟩
          unfold rnk
          rw [if_neg (by omega), if_pos (by omega)]
    · skip
      refine go_iconst (v := nI 2) (by decide) dX5_rank_12 ?_
      refine go_iret rfl ⟨Nat.zero_le _, Nat.zero_le _⟩ dX5_rank_13 ?_
      refine ⟨?_, rfl⟩
      unfold rnk
      rw [if_pos (by omega)]
set_option maxRecDepth 100000 in
set_option maxHeartbeats 4000000 in
theorem ev_ladd {m : Me} {la : Nat} {W : List Nat} {D : List (Nat × Nat)} (hl : Wf5 m.1 (gR m) la) (h : LC m la W D) {s v : Nat} (hd : D.length < 420) : Ev mX5_add [.ref la, .int (nI s), .int (nI v)] m (fun o m' => o = none ∧ LC m' la (W) (D ++ [(s, v)]) ∧ FL la m m') := by
  refine ⟨plmX5_add, nle rfl, ?_⟩
  refine go_aload_n (q := 0) (i := 0) rfl rfl dX5_add_0 ?_
  refine go_getI lf5_27 rfl hl.o dX5_add_1 ?_
  rw [h.1]
  refine gz_lt (by omega) (tgt := 42) dX5_add_4 (by decide) (fun h4 => by exfalso; omega) (fun h4 => ?_)
  refine go_aload_n (q := 0) (i := 0) rfl rfl dX5_add_7 ?_
  refine go_getI lf5_27 rfl hl.o dX5_add_8 ?_
  rw [h.1]
  refine go_sipush (v := nI 420) (by decide) dX5_add_11 ?_
  refine gn_ge (by omega) (by omega) (tgt := 42) dX5_add_14 (by decide) (fun h14 => by exfalso; omega) (fun h14 => ?_)
  refine go_aload_n (q := 0) (i := 0) rfl rfl dX5_add_17 ?_
  refine go_getR lf5_9 rfl hl.o hl.r0 dX5_add_18 ?_
  refine go_aload_n (q := 0) (i := 0) rfl rfl dX5_add_21 ?_
  refine go_getI lf5_27 rfl hl.o dX5_add_22 ?_
  rw [h.1]
  refine go_iload_n (q := 1) (i := 1) rfl rfl dX5_add_25 ?_
  refine go_bipush (v := nI 16) (by decide) dX5_add_26 ?_
  refine go_ishl dX5_add_28 ?_
  refine go_iload_n (q := 2) (i := 2) rfl rfl dX5_add_29 ?_
  refine go_ior dX5_add_30 ?_
  refine go_iast (j := D.length) hl.i0 (by omega) (by first | decide | omega) rfl dX5_add_31 ?_
  refine go_aload_n (q := 0) (i := 0) rfl rfl dX5_add_32 ?_
  refine go_dup rfl dX5_add_33 ?_
  refine go_getI lf5_27 rfl hl.o dX5_add_34 ?_
  rw [gI_n (by omega), h.1]
  refine go_iconst (v := nI 1) (by decide) dX5_add_37 ?_
  refine gn_add dX5_add_38 ?_
  refine go_putI lf5_27 rfl (Or.inl rfl) hl.o dX5_add_39 ?_
  refine go_vret rfl ⟨Nat.zero_le _, Nat.zero_le _⟩ dX5_add_42 ?_
  refine ⟨rfl, ⟨?_, fun i c hi => ?_, ?_, fun i k hi => ?_⟩, Fx.I (Fx.I Fx.rf (Or.inr (Or.inl rfl))) (Or.inl rfl)⟩
  · rw [gI_s, upd_same, List.length_append]; rfl
  · rw [gI_n (by omega), gI_s]
    by_cases e : i < D.length
    · rw [upd_ne (by omega)]
      rw [List.getElem?_append_left e] at hi
      exact h.2.1 i c hi
    · have hlt := (List.getElem?_eq_some_iff.mp hi).1
      rw [List.length_append] at hlt
      have e2 : i = D.length := by simp at hlt; omega
      subst e2
      rw [List.getElem?_append_right (Nat.le_refl _), Nat.sub_self] at hi
      rw [upd_same]
      cases hi
      rfl
  · rw [gI_s, upd_ne (by decide), gI_n (by omega)]; exact h.2.2.1
  · rw [gI_n (by omega), gI_n (by omega)]; exact h.2.2.2 i k hi
set_option maxRecDepth 100000 in
set_option maxHeartbeats 4000000 in
theorem ev_lpush {m : Me} {la : Nat} {W : List Nat} {D : List (Nat × Nat)} (hl : Wf5 m.1 (gR m) la) (h : LC m la W D) {k : Nat} (hw : W.length < 24) : Ev mX5_push [.ref la, .int (nI k)] m (fun o m' => o = none ∧ LC m' la (k :: W) (D) ∧ FL la m m') := by
  refine ⟨plmX5_push, nle rfl, ?_⟩
  refine go_aload_n (q := 0) (i := 0) rfl rfl dX5_push_0 ?_
  refine go_getI lf5_39 rfl hl.o dX5_push_1 ?_
  rw [h.2.2.1]
  refine gz_lt (by omega) (tgt := 36) dX5_push_4 (by decide) (fun h4 => by exfalso; omega) (fun h4 => ?_)
  refine go_aload_n (q := 0) (i := 0) rfl rfl dX5_push_7 ?_
  refine go_getI lf5_39 rfl hl.o dX5_push_8 ?_
  rw [h.2.2.1]
  refine go_bipush (v := nI 24) (by decide) dX5_push_11 ?_
  refine gn_ge (by omega) (by omega) (tgt := 36) dX5_push_13 (by decide) (fun h13 => by exfalso; omega) (fun h13 => ?_)
  refine go_aload_n (q := 0) (i := 0) rfl rfl dX5_push_16 ?_
  refine go_getR lf5_24 rfl hl.o hl.r4 dX5_push_17 ?_
  refine go_aload_n (q := 0) (i := 0) rfl rfl dX5_push_20 ?_
  refine go_getI lf5_39 rfl hl.o dX5_push_21 ?_
  rw [h.2.2.1]
  refine go_iload_n (q := 1) (i := 1) rfl rfl dX5_push_24 ?_
  refine go_iast (j := W.length) hl.i4 (by omega) (by first | decide | omega) rfl dX5_push_25 ?_
  refine go_aload_n (q := 0) (i := 0) rfl rfl dX5_push_26 ?_
  refine go_dup rfl dX5_push_27 ?_
  refine go_getI lf5_39 rfl hl.o dX5_push_28 ?_
  rw [gI_n (by omega), h.2.2.1]
  refine go_iconst (v := nI 1) (by decide) dX5_push_31 ?_
  refine gn_add dX5_push_32 ?_
  refine go_putI lf5_39 rfl (Or.inl rfl) hl.o dX5_push_33 ?_
  refine go_vret rfl ⟨Nat.zero_le _, Nat.zero_le _⟩ dX5_push_36 ?_
  refine ⟨rfl, ⟨?_, fun i c hi => ?_, ?_, fun i j hi => ?_⟩, Fx.I (Fx.I Fx.rf (Or.inr (Or.inr rfl))) (Or.inl rfl)⟩
  · rw [gI_s, upd_ne (by decide), gI_n (by omega)]; exact h.1
  · rw [gI_n (by omega), gI_n (by omega)]; exact h.2.1 i c hi
  · rw [gI_s, upd_same]; rfl
  · rw [gI_n (by omega), gI_s]
    rw [List.reverse_cons] at hi
    by_cases e : i < W.length
    · rw [upd_ne (by omega)]
      rw [List.getElem?_append_left (by rw [List.length_reverse]; exact e)] at hi
      exact h.2.2.2 i j hi
    · have hlt := (List.getElem?_eq_some_iff.mp hi).1
      rw [List.length_append, List.length_reverse] at hlt
      have e2 : i = W.length := by simp at hlt; omega
      subst e2
      rw [List.getElem?_append_right (by rw [List.length_reverse]; exact Nat.le_refl _), List.length_reverse, Nat.sub_self] at hi
      rw [upd_same]
      cases hi
      rfl
