theorem FL.wf {la : Nat} {m m' : Me} (c : FL la m m') (h : Wf5 m.1 (gR m) la) : Wf5 m'.1 (gR m') la := c.to (F := fun q s => Wf5 q s la) h
/-- the newest that waits goes -/
theorem LC.pop {m : Me} {la k : Nat} {W : List Nat} {D : List (Nat × Nat)} (h : LC m la (k :: W) D) : LC (sI m la (upd (gI m la) 6 (nI W.length))) la W D := by
  refine ⟨?_, fun i c hi => ?_, ?_, fun i j hi => ?_⟩
  · rw [gI_s, upd_ne (by decide)]; exact h.1
  · rw [gI_n (by omega)]; exact h.2.1 i c hi
  · rw [gI_s, upd_same]
  · rw [gI_n (by omega)]
    refine h.2.2.2 i j ?_
    rw [List.reverse_cons]
    rw [List.getElem?_append_left (List.getElem?_eq_some_iff.mp hi).1]
    exact hi
theorem LC.top {m : Me} {la k : Nat} {W : List Nat} {D : List (Nat × Nat)} (h : LC m la (k :: W) D) : gI m (la + 5) W.length = nI k := by
  refine h.2.2.2 _ _ ?_
  rw [List.reverse_cons, List.getElem?_append_right (by rw [List.length_reverse]; exact Nat.le_refl _), List.length_reverse, Nat.sub_self]
  rfl
set_option maxRecDepth 100000 in
set_option maxHeartbeats 8000000 in
theorem ev_laddW {m : Me} {la r : Nat} {W : List Nat} {D : List (Nat × Nat)} (hl : Wf5 m.1 (gR m) la) (h : LC m la W D) (hr : 0 < r ∧ r ≤ 100) (hw : W.length ≤ 24) (hk : ∀ k ∈ W, k ≤ 35) (hd : D.length + W.length ≤ 420) : Ev mX5_addWaiting [.ref la, .int (nI r)] m (fun o m' => o = none ∧ LC m' la (eOut r W D).1 (eOut r W D).2 ∧ FL la m m') := by
  refine ⟨plmX5_addWaiting, nle rfl, ?_⟩
  have key : ∀ (V : List Nat) (E : List (Nat × Nat)) (m1 : Me) (x : Int32), (V = [] → x = -1) → (V ≠ [] → x = nI (V.length - 1)) → LC m1 la V E → FL la m m1 → V.length ≤ 24 → (∀ k ∈ V, k ≤ 35) → E.length + V.length ≤ 420 → eOut r V E = eOut r W D → Go mX5_addWaiting (fun o m' => o = none ∧ LC m' la (eOut r W D).1 (eOut r W D).2 ∧ FL la m m') 7 [some (.ref la), some (.int (nI r)), some (.int x)] [] m1 0 0 := by
    intro V
    induction V with
    | nil =>
      intro E m1 x hx1 _ h c _ _ _ hS
      rw [hx1 rfl]
      rw [show eOut r [] E = ([], E) from rfl] at hS
      refine go_iload_n (q := 2) (i := 2) rfl rfl dX5_addWaiting_7 ?_
      refine go_if_lt (tgt := 57) dX5_addWaiting_8 (by decide) (fun h8 => ?_) (fun h8 => by exfalso; exact h8 (by decide))
      refine go_vret rfl ⟨Nat.zero_le _, Nat.zero_le _⟩ dX5_addWaiting_57 ?_
      rw [← hS]
      exact ⟨rfl, h, c⟩
    | cons k V ih =>
      intro E m1 x _ hx2 h c hV hkV hd hS
      rw [hx2 (List.cons_ne_nil _ _), show (k :: V).length - 1 = V.length from rfl]
      have hl := c.wf hl
      have hk35 : k ≤ 35 := hkV k (List.mem_cons_self)
      have hV1 : V.length + 1 ≤ 24 := hV
      have hd1 : E.length + (V.length + 1) ≤ 420 := hd
      have htop := h.top
      have hrk := rnk_le k
      by_cases hq : r ≤ rnk k
      · have ho := rnk_o (show 0 < rnk k by omega)
        rw [show eOut r (k :: V) E = eOut r V (E ++ [(k - 25, 0)]) from if_pos hq] at hS
        refine go_iload_n (q := 2) (i := 2) rfl rfl dX5_addWaiting_7 ?_
        refine gz_lt (by omega) (tgt := 57) dX5_addWaiting_8 (by decide) (fun h8 => by exfalso; omega) (fun h8 => ?_)
        refine go_iload_n (q := 2) (i := 2) rfl rfl dX5_addWaiting_11 ?_
        refine go_bipush (v := nI 24) (by decide) dX5_addWaiting_12 ?_
        refine gn_ge (by omega) (by omega) (tgt := 57) dX5_addWaiting_14 (by decide) (fun h14 => by exfalso; omega) (fun h14 => ?_)
        refine go_aload_n (q := 0) (i := 0) rfl rfl dX5_addWaiting_17 ?_
        refine go_getR lf5_24 rfl hl.o hl.r4 dX5_addWaiting_18 ?_
        refine go_iload_n (q := 2) (i := 2) rfl rfl dX5_addWaiting_21 ?_
        refine go_iald (j := V.length) hl.i4 (by omega) (by first | decide | omega) rfl dX5_addWaiting_22 ?_
        rw [htop]
        refine go_callS okmX5_rank lmX5_70 ⟨nle rfl, nle rfl⟩ (ev_rank (by omega)) npmX5_rank rfl (nle rfl) ⟨nle rfl, nle rfl⟩ dX5_addWaiting_23 ?_
        rintro _ mz ⟨rfl, hz⟩
        subst mz
        refine go_c1 ?_
        refine go_iload_n (q := 1) (i := 1) rfl rfl dX5_addWaiting_26 ?_
        refine gn_lt (by omega) (by omega) (tgt := 57) dX5_addWaiting_27 (by decide) (fun h27 => by exfalso; omega) (fun h27 => ?_)
        refine go_aload_n (q := 0) (i := 0) rfl rfl dX5_addWaiting_30 ?_
        refine go_iconst (v := nI 2) (by decide) dX5_addWaiting_31 ?_
        refine go_aload_n (q := 0) (i := 0) rfl rfl dX5_addWaiting_32 ?_
        refine go_getR lf5_24 rfl hl.o hl.r4 dX5_addWaiting_33 ?_
        refine go_iload_n (q := 2) (i := 2) rfl rfl dX5_addWaiting_36 ?_
        refine go_iald (j := V.length) hl.i4 (by omega) (by first | decide | omega) rfl dX5_addWaiting_37 ?_
        rw [htop]
        refine gn_add dX5_addWaiting_38 ?_
        refine go_bipush (v := nI 27) (by decide) dX5_addWaiting_39 ?_
        refine gn_sub (by omega) dX5_addWaiting_41 ?_
        rw [show 2 + k - 27 = k - 25 by omega]
        refine go_iconst (v := nI 0) (by decide) dX5_addWaiting_42 ?_
        refine go_callV okmX5_add lmX5_35 ⟨nle rfl, nle rfl⟩ hl.o ⟨by decide, rfl⟩ (ev_ladd hl h (by omega)) npmX5_add rfl (nle rfl) ⟨nle rfl, nle rfl⟩ dX5_addWaiting_43 ?_
        rintro _ m2 ⟨rfl, h2, c2⟩
        have hl := c2.wf hl
        refine go_c0 ?_
        refine go_aload_n (q := 0) (i := 0) rfl rfl dX5_addWaiting_46 ?_
        refine go_iload_n (q := 2) (i := 2) rfl rfl dX5_addWaiting_47 ?_
        refine go_putI lf5_39 rfl (Or.inl rfl) hl.o dX5_addWaiting_48 ?_
        refine go_iinc (i := 2) dX5_addWaiting_51 (nle rfl) rfl ?_
        refine go_goto (tgt := 7) dX5_addWaiting_54 (by decide) ?_
        refine ih _ _ _ (fun e => ?_) (fun e => ?_) h2.pop ((c.tr c2).tr (Fx.I Fx.rf (Or.inl rfl))) (by omega) (fun j hj => hkV j (List.mem_cons_of_mem _ hj)) (by rw [List.length_append]; show E.length + 1 + V.length ≤ 420; omega) hS
        · subst e; decide
        · have := List.length_pos_iff.mpr e
          exact nI_dn this
      · rw [show eOut r (k :: V) E = (k :: V, E) from if_neg hq] at hS
        refine go_iload_n (q := 2) (i := 2) rfl rfl dX5_addWaiting_7 ?_
        refine gz_lt (by omega) (tgt := 57) dX5_addWaiting_8 (by decide) (fun h8 => by exfalso; omega) (fun h8 => ?_)
        refine go_iload_n (q := 2) (i := 2) rfl rfl dX5_addWaiting_11 ?_
        refine go_bipush (v := nI 24) (by decide) dX5_addWaiting_12 ?_
        refine gn_ge (by omega) (by omega) (tgt := 57) dX5_addWaiting_14 (by decide) (fun h14 => by exfalso; omega) (fun h14 => ?_)
        refine go_aload_n (q := 0) (i := 0) rfl rfl dX5_addWaiting_17 ?_
        refine go_getR lf5_24 rfl hl.o hl.r4 dX5_addWaiting_18 ?_
        refine go_iload_n (q := 2) (i := 2) rfl rfl dX5_addWaiting_21 ?_
        refine go_iald (j := V.length) hl.i4 (by omega) (by first | decide | omega) rfl dX5_addWaiting_22 ?_
        rw [htop]
        refine go_callS okmX5_rank lmX5_70 ⟨nle rfl, nle rfl⟩ (ev_rank (by omega)) npmX5_rank rfl (nle rfl) ⟨nle rfl, nle rfl⟩ dX5_addWaiting_23 ?_
        rintro _ mz ⟨rfl, hz⟩
        subst mz
        refine go_c1 ?_
        refine go_iload_n (q := 1) (i := 1) rfl rfl dX5_addWaiting_26 ?_
        refine gn_lt (by omega) (by omega) (tgt := 57) dX5_addWaiting_27 (by decide) (fun h27 => ?_) (fun h27 => by exfalso; omega)
        refine go_vret rfl ⟨Nat.zero_le _, Nat.zero_le _⟩ dX5_addWaiting_57 ?_
        rw [← hS]
        exact ⟨rfl, h, c⟩
  refine go_aload_n (q := 0) (i := 0) rfl rfl dX5_addWaiting_0 ?_
  refine go_getI lf5_39 rfl hl.o dX5_addWaiting_1 ?_
  rw [h.2.2.1]
  refine go_iconst (v := nI 1) (by decide) dX5_addWaiting_4 ?_
  refine go_isub dX5_addWaiting_5 ?_
  refine go_istore_n (q := 2) (i := 2) rfl dX5_addWaiting_6 (nle rfl) (nle rfl) ?_
  refine key W D m _ (fun e => ?_) (fun e => ?_) h Fx.rf hw hk hd rfl
  · subst e; decide
  · exact pk_sub (List.length_pos_iff.mpr e)
