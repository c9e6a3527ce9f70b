/-- one token of a law, as the class makes it: the < also lets all out that waits -/
def eMk (k v : Nat) (s : List Nat × List (Nat × Nat)) : List Nat × List (Nat × Nat) := if k = 31 then eOut 1 s.1 s.2 else eTok k v s
theorem eOut_le {r : Nat} : ∀ (W : List Nat) (D : List (Nat × Nat)), (eOut r W D).1.length ≤ W.length ∧ (eOut r W D).1.length + (eOut r W D).2.length = W.length + D.length ∧ ∀ k ∈ (eOut r W D).1, k ∈ W
  | [], D => ⟨Nat.le_refl _, rfl, fun _ h => h⟩
  | k :: W, D => by
    by_cases a : r ≤ rnk k
    · rw [show eOut r (k :: W) D = eOut r W (D ++ [(k - 25, 0)]) from if_pos a]
      have h := eOut_le (r := r) W (D ++ [(k - 25, 0)])
      rw [List.length_append] at h
      refine ⟨Nat.le_trans h.1 (Nat.le_succ _), h.2.1.trans ?_, fun j hj => List.mem_cons_of_mem _ (h.2.2 j hj)⟩
      show W.length + (D.length + 1) = W.length + 1 + D.length
      omega
    · rw [show eOut r (k :: W) D = (k :: W, D) from if_neg a]
      exact ⟨Nat.le_refl _, rfl, fun _ h => h⟩
theorem LC.tail {m : Me} {la : Nat} {W : List Nat} {D : List (Nat × Nat)} {x : Int32} (h : LC m la W D) (hx : x = nI W.tail.length) : LC (sI m la (upd (gI m la) 6 x)) la W.tail D := by
  subst hx
  cases W with
  | cons k W => exact h.pop
  | nil =>
    refine ⟨?_, fun i c hi => ?_, ?_, fun i j hi => ?_⟩
    · rw [gI_s, upd_ne (by decide)]; exact h.1
    · rw [gI_n (by omega)]; exact h.2.1 i c hi
    · rw [gI_s, upd_same]
    · rw [gI_n (by omega)]; exact h.2.2.2 i j hi
theorem tl_n {W : List Nat} (hw : W.length ≤ 24) : (if nI W.length - nI 1 < nI 0 then nI 0 else nI W.length - nI 1) = nI W.tail.length := by
  cases W with
  | nil => decide
  | cons k W =>
    have hw1 : W.length + 1 ≤ 24 := hw
    rw [show nI (k :: W).length - nI 1 = nI W.length from pk_sub (show 1 ≤ W.length + 1 by omega), if_neg (by rw [nI_ltI (by omega) (by omega)]; omega)]
    rfl
set_option maxRecDepth 100000 in
set_option maxHeartbeats 8000000 in
theorem ev_lpart {m : Me} {la k v : Nat} {W : List Nat} {D : List (Nat × Nat)} (hl : Wf5 m.1 (gR m) la) (h : LC m la W D) (hk : k ≤ 35) (hw : W.length < 24) (hkW : ∀ k ∈ W, k ≤ 35) (hd : D.length + W.length < 420) : Ev mX5_makePart [.ref la, .int (nI k), .int (nI v)] m (fun o m' => o = none ∧ LC m' la (eMk k v (W, D)).1 (eMk k v (W, D)).2 ∧ FL la m m') := by
  refine ⟨plmX5_makePart, nle rfl, ?_⟩
  have hrk := rnk_le k
  refine go_iload_n (q := 1) (i := 1) rfl rfl dX5_makePart_0 ?_
  refine go_bipush (v := nI 24) (by decide) dX5_makePart_1 ?_
  refine gn_ne (by omega) (by omega) (tgt := 15) dX5_makePart_3 (by decide) (fun h3 => ?_) (fun h3 => ?_)
  · skip
    refine go_iload_n (q := 1) (i := 1) rfl rfl dX5_makePart_15 ?_
    refine go_bipush (v := nI 14) (by decide) dX5_makePart_16 ?_
    refine gn_lt (by omega) (by omega) (tgt := 39) dX5_makePart_18 (by decide) (fun h18 => ?_) (fun h18 => ?_)
    · skip
      refine go_iload_n (q := 1) (i := 1) rfl rfl dX5_makePart_39 ?_
      refine go_bipush (v := nI 32) (by decide) dX5_makePart_40 ?_
      refine gn_ne (by omega) (by omega) (tgt := 54) dX5_makePart_42 (by decide) (fun h42 => ?_) (fun h42 => ?_)
      · skip
        refine go_iload_n (q := 1) (i := 1) rfl rfl dX5_makePart_54 ?_
        refine go_bipush (v := nI 33) (by decide) dX5_makePart_55 ?_
        refine gn_ne (by omega) (by omega) (tgt := 82) dX5_makePart_57 (by decide) (fun h57 => ?_) (fun h57 => ?_)
        · skip
          refine go_iload_n (q := 1) (i := 1) rfl rfl dX5_makePart_82 ?_
          refine go_bipush (v := nI 31) (by decide) dX5_makePart_83 ?_
          refine gn_ne (by omega) (by omega) (tgt := 96) dX5_makePart_85 (by decide) (fun h85 => ?_) (fun h85 => ?_)
          · skip
            refine go_iload_n (q := 1) (i := 1) rfl rfl dX5_makePart_96 ?_
            refine go_callS okmX5_rank lmX5_70 ⟨nle rfl, nle rfl⟩ (ev_rank (by omega)) npmX5_rank rfl (nle rfl) ⟨nle rfl, nle rfl⟩ dX5_makePart_97 ?_
            rintro _ mz ⟨rfl, hz⟩
            subst mz
            refine go_c1 ?_
            refine gz_le (by omega) (tgt := 116) dX5_makePart_100 (by decide) (fun h100 => ?_) (fun h100 => ?_)
            · skip
              refine go_vret rfl ⟨Nat.zero_le _, Nat.zero_le _⟩ dX5_makePart_116 ?_
              rw [show eMk k v (W, D) = eTok k v (W, D) from if_neg (by omega)]
              unfold eTok
              rw [if_neg (by omega), if_neg (by omega), if_neg (by omega), if_neg (by omega), if_neg (by omega)]
              exact ⟨rfl, h, Fx.rf⟩
            · skip
              refine go_aload_n (q := 0) (i := 0) rfl rfl dX5_makePart_103 ?_
              refine go_iload_n (q := 1) (i := 1) rfl rfl dX5_makePart_104 ?_
              refine go_callS okmX5_rank lmX5_70 ⟨nle rfl, nle rfl⟩ (ev_rank (by omega)) npmX5_rank rfl (nle rfl) ⟨nle rfl, nle rfl⟩ dX5_makePart_105 ?_
              rintro _ mz ⟨rfl, hz⟩
              subst mz
              refine go_c1 ?_
              refine go_callV okmX5_addWaiting lmX5_48 ⟨nle rfl, nle rfl⟩ hl.o ⟨by decide, rfl⟩ (ev_laddW (r := (rnk k)) hl h (by omega) (by omega) hkW (by omega)) npmX5_addWaiting rfl (nle rfl) ⟨nle rfl, nle rfl⟩ dX5_makePart_108 ?_
              rintro _ m1 ⟨rfl, h1, c1⟩
              have hl := c1.wf hl
              have hq := eOut_le (r := (rnk k)) W D
              refine go_c0 ?_
              refine go_aload_n (q := 0) (i := 0) rfl rfl dX5_makePart_111 ?_
              refine go_iload_n (q := 1) (i := 1) rfl rfl dX5_makePart_112 ?_
              refine go_callV okmX5_push lmX5_61 ⟨nle rfl, nle rfl⟩ hl.o ⟨by decide, rfl⟩ (ev_lpush hl h1 (by omega)) npmX5_push rfl (nle rfl) ⟨nle rfl, nle rfl⟩ dX5_makePart_113 ?_
              rintro _ m2 ⟨rfl, h2, c2⟩
              refine go_c0 ?_
              refine go_vret rfl ⟨Nat.zero_le _, Nat.zero_le _⟩ dX5_makePart_116 ?_
              rw [show eMk k v (W, D) = eTok k v (W, D) from if_neg (by omega)]
              unfold eTok
              rw [if_neg (by omega), if_neg (by omega), if_neg (by omega), if_neg (by omega), if_pos (by omega)]
              exact ⟨rfl, h2, c1.tr c2⟩
          · skip
            refine go_aload_n (q := 0) (i := 0) rfl rfl dX5_makePart_88 ?_
            refine go_iconst (v := nI 1) (by decide) dX5_makePart_89 ?_
            refine go_callV okmX5_addWaiting lmX5_48 ⟨nle rfl, nle rfl⟩ hl.o ⟨by decide, rfl⟩ (ev_laddW (r := 1) hl h (by omega) (by omega) hkW (by omega)) npmX5_addWaiting rfl (nle rfl) ⟨nle rfl, nle rfl⟩ dX5_makePart_90 ?_
            rintro _ m1 ⟨rfl, h1, c1⟩
            have hl := c1.wf hl
            have hq := eOut_le (r := 1) W D
            refine go_c0 ?_
            refine go_goto (tgt := 116) dX5_makePart_93 (by decide) ?_
            refine go_vret rfl ⟨Nat.zero_le _, Nat.zero_le _⟩ dX5_makePart_116 ?_
            rw [show eMk k v (W, D) = eOut 1 W D from if_pos (by omega)]
            exact ⟨rfl, h1, c1⟩
        · skip
          refine go_aload_n (q := 0) (i := 0) rfl rfl dX5_makePart_60 ?_
          refine go_iconst (v := nI 1) (by decide) dX5_makePart_61 ?_
          refine go_callV okmX5_addWaiting lmX5_48 ⟨nle rfl, nle rfl⟩ hl.o ⟨by decide, rfl⟩ (ev_laddW (r := 1) hl h (by omega) (by omega) hkW (by omega)) npmX5_addWaiting rfl (nle rfl) ⟨nle rfl, nle rfl⟩ dX5_makePart_62 ?_
          rintro _ m1 ⟨rfl, h1, c1⟩
          have hl := c1.wf hl
          have hq := eOut_le (r := 1) W D
          refine go_c0 ?_
          refine go_aload_n (q := 0) (i := 0) rfl rfl dX5_makePart_65 ?_
          refine go_aload_n (q := 0) (i := 0) rfl rfl dX5_makePart_66 ?_
          refine go_getI lf5_39 rfl hl.o dX5_makePart_67 ?_
          rw [h1.2.2.1]
          refine go_iconst (v := nI 1) (by decide) dX5_makePart_70 ?_
          refine go_isub dX5_makePart_71 ?_
          refine go_iconst (v := nI 0) (by decide) dX5_makePart_72 ?_
          refine go_max okMax (wg4 18 rfl rfl) ⟨nle rfl, nle rfl⟩ ⟨Nat.zero_le _, Nat.zero_le _⟩ dX5_makePart_73 ?_
          rw [tl_n (by omega)]
          refine go_putI lf5_39 rfl (Or.inl rfl) hl.o dX5_makePart_76 ?_
          refine go_goto (tgt := 116) dX5_makePart_79 (by decide) ?_
          refine go_vret rfl ⟨Nat.zero_le _, Nat.zero_le _⟩ dX5_makePart_116 ?_
          rw [show eMk k v (W, D) = eTok k v (W, D) from if_neg (by omega)]
          unfold eTok
          rw [if_neg (by omega), if_neg (by omega), if_neg (by omega), if_pos (by omega)]
          exact ⟨rfl, h1.tail rfl, c1.tr (Fx.I Fx.rf (Or.inl rfl))⟩
      · skip
        refine go_aload_n (q := 0) (i := 0) rfl rfl dX5_makePart_45 ?_
        refine go_bipush (v := nI 32) (by decide) dX5_makePart_46 ?_
        refine go_callV okmX5_push lmX5_61 ⟨nle rfl, nle rfl⟩ hl.o ⟨by decide, rfl⟩ (ev_lpush hl h hw) npmX5_push rfl (nle rfl) ⟨nle rfl, nle rfl⟩ dX5_makePart_48 ?_
        rintro _ m1 ⟨rfl, h1, c1⟩
        refine go_c0 ?_
        refine go_goto (tgt := 116) dX5_makePart_51 (by decide) ?_
        refine go_vret rfl ⟨Nat.zero_le _, Nat.zero_le _⟩ dX5_makePart_116 ?_
        rw [show eMk k v (W, D) = eTok k v (W, D) from if_neg (by omega)]
        unfold eTok
        rw [if_neg (by omega), if_neg (by omega), if_pos (by omega)]
        exact ⟨rfl, h1, c1⟩
    · skip
      refine go_iload_n (q := 1) (i := 1) rfl rfl dX5_makePart_21 ?_
      refine go_bipush (v := nI 22) (by decide) dX5_makePart_22 ?_
      refine gn_gt (by omega) (by omega) (tgt := 39) dX5_makePart_24 (by decide) (fun h24 => ?_) (fun h24 => ?_)
      · skip
        refine go_iload_n (q := 1) (i := 1) rfl rfl dX5_makePart_39 ?_
        refine go_bipush (v := nI 32) (by decide) dX5_makePart_40 ?_
        refine gn_ne (by omega) (by omega) (tgt := 54) dX5_makePart_42 (by decide) (fun h42 => ?_) (fun h42 => ?_)
        · skip
          refine go_iload_n (q := 1) (i := 1) rfl rfl dX5_makePart_54 ?_
          refine go_bipush (v := nI 33) (by decide) dX5_makePart_55 ?_
          refine gn_ne (by omega) (by omega) (tgt := 82) dX5_makePart_57 (by decide) (fun h57 => ?_) (fun h57 => ?_)
          · skip
            refine go_iload_n (q := 1) (i := 1) rfl rfl dX5_makePart_82 ?_
            refine go_bipush (v := nI 31) (by decide) dX5_makePart_83 ?_
            refine gn_ne (by omega) (by omega) (tgt := 96) dX5_makePart_85 (by decide) (fun h85 => ?_) (fun h85 => ?_)
            · skip
              refine go_iload_n (q := 1) (i := 1) rfl rfl dX5_makePart_96 ?_
              refine go_callS okmX5_rank lmX5_70 ⟨nle rfl, nle rfl⟩ (ev_rank (by omega)) npmX5_rank rfl (nle rfl) ⟨nle rfl, nle rfl⟩ dX5_makePart_97 ?_
              rintro _ mz ⟨rfl, hz⟩
              subst mz
              refine go_c1 ?_
              refine gz_le (by omega) (tgt := 116) dX5_makePart_100 (by decide) (fun h100 => ?_) (fun h100 => ?_)
              · skip
                refine go_vret rfl ⟨Nat.zero_le _, Nat.zero_le _⟩ dX5_makePart_116 ?_
                rw [show eMk k v (W, D) = eTok k v (W, D) from if_neg (by omega)]
                unfold eTok
                rw [if_neg (by omega), if_neg (by omega), if_neg (by omega), if_neg (by omega), if_neg (by omega)]
                exact ⟨rfl, h, Fx.rf⟩
              · skip
                refine go_aload_n (q := 0) (i := 0) rfl rfl dX5_makePart_103 ?_
                refine go_iload_n (q := 1) (i := 1) rfl rfl dX5_makePart_104 ?_
                refine go_callS okmX5_rank lmX5_70 ⟨nle rfl, nle rfl⟩ (ev_rank (by omega)) npmX5_rank rfl (nle rfl) ⟨nle rfl, nle rfl⟩ dX5_makePart_105 ?_
                rintro _ mz ⟨rfl, hz⟩
                subst mz
                refine go_c1 ?_
                refine go_callV okmX5_addWaiting lmX5_48 ⟨nle rfl, nle rfl⟩ hl.o ⟨by decide, rfl⟩ (ev_laddW (r := (rnk k)) hl h (by omega) (by omega) hkW (by omega)) npmX5_addWaiting rfl (nle rfl) ⟨nle rfl, nle rfl⟩ dX5_makePart_108 ?_
                rintro _ m1 ⟨rfl, h1, c1⟩
                have hl := c1.wf hl
                have hq := eOut_le (r := (rnk k)) W D
                refine go_c0 ?_
                refine go_aload_n (q := 0) (i := 0) rfl rfl dX5_makePart_111 ?_
                refine go_iload_n (q := 1) (i := 1) rfl rfl dX5_makePart_112 ?_
                refine go_callV okmX5_push lmX5_61 ⟨nle rfl, nle rfl⟩ hl.o ⟨by decide, rfl⟩ (ev_lpush hl h1 (by omega)) npmX5_push rfl (nle rfl) ⟨nle rfl, nle rfl⟩ dX5_makePart_113 ?_
                rintro _ m2 ⟨rfl, h2, c2⟩
                refine go_c0 ?_
                refine go_vret rfl ⟨Nat.zero_le _, Nat.zero_le _⟩ dX5_makePart_116 ?_
                rw [show eMk k v (W, D) = eTok k v (W, D) from if_neg (by omega)]
                unfold eTok
                rw [if_neg (by omega), if_neg (by omega), if_neg (by omega), if_neg (by omega), if_pos (by omega)]
                exact ⟨rfl, h2, c1.tr c2⟩
            · skip
              refine go_aload_n (q := 0) (i := 0) rfl rfl dX5_makePart_88 ?_
              refine go_iconst (v := nI 1) (by decide) dX5_makePart_89 ?_
              refine go_callV okmX5_addWaiting lmX5_48 ⟨nle rfl, nle rfl⟩ hl.o ⟨by decide, rfl⟩ (ev_laddW (r := 1) hl h (by omega) (by omega) hkW (by omega)) npmX5_addWaiting rfl (nle rfl) ⟨nle rfl, nle rfl⟩ dX5_makePart_90 ?_
              rintro _ m1 ⟨rfl, h1, c1⟩
              have hl := c1.wf hl
              have hq := eOut_le (r := 1) W D
              refine go_c0 ?_
              refine go_goto (tgt := 116) dX5_makePart_93 (by decide) ?_
              refine go_vret rfl ⟨Nat.zero_le _, Nat.zero_le _⟩ dX5_makePart_116 ?_
              rw [show eMk k v (W, D) = eOut 1 W D from if_pos (by omega)]
              exact ⟨rfl, h1, c1⟩
          · skip
            refine go_aload_n (q := 0) (i := 0) rfl rfl dX5_makePart_60 ?_
            refine go_iconst (v := nI 1) (by decide) dX5_makePart_61 ?_
            refine go_callV okmX5_addWaiting lmX5_48 ⟨nle rfl, nle rfl⟩ hl.o ⟨by decide, rfl⟩ (ev_laddW (r := 1) hl h (by omega) (by omega) hkW (by omega)) npmX5_addWaiting rfl (nle rfl) ⟨nle rfl, nle rfl⟩ dX5_makePart_62 ?_
            rintro _ m1 ⟨rfl, h1, c1⟩
            have hl := c1.wf hl
            have hq := eOut_le (r := 1) W D
            refine go_c0 ?_
            refine go_aload_n (q := 0) (i := 0) rfl rfl dX5_makePart_65 ?_
            refine go_aload_n (q := 0) (i := 0) rfl rfl dX5_makePart_66 ?_
            refine go_getI lf5_39 rfl hl.o dX5_makePart_67 ?_
            rw [h1.2.2.1]
            refine go_iconst (v := nI 1) (by decide) dX5_makePart_70 ?_
            refine go_isub dX5_makePart_71 ?_
            refine go_iconst (v := nI 0) (by decide) dX5_makePart_72 ?_
            refine go_max okMax (wg4 18 rfl rfl) ⟨nle rfl, nle rfl⟩ ⟨Nat.zero_le _, Nat.zero_le _⟩ dX5_makePart_73 ?_
            rw [tl_n (by omega)]
            refine go_putI lf5_39 rfl (Or.inl rfl) hl.o dX5_makePart_76 ?_
            refine go_goto (tgt := 116) dX5_makePart_79 (by decide) ?_
            refine go_vret rfl ⟨Nat.zero_le _, Nat.zero_le _⟩ dX5_makePart_116 ?_
            rw [show eMk k v (W, D) = eTok k v (W, D) from if_neg (by omega)]
            unfold eTok
            rw [if_neg (by omega), if_neg (by omega), if_neg (by omega), if_pos (by omega)]
            exact ⟨rfl, h1.tail rfl, c1.tr (Fx.I Fx.rf (Or.inl rfl))⟩
        · skip
          refine go_aload_n (q := 0) (i := 0) rfl rfl dX5_makePart_45 ?_
          refine go_bipush (v := nI 32) (by decide) dX5_makePart_46 ?_
          refine go_callV okmX5_push lmX5_61 ⟨nle rfl, nle rfl⟩ hl.o ⟨by decide, rfl⟩ (ev_lpush hl h hw) npmX5_push rfl (nle rfl) ⟨nle rfl, nle rfl⟩ dX5_makePart_48 ?_
          rintro _ m1 ⟨rfl, h1, c1⟩
          refine go_c0 ?_
          refine go_goto (tgt := 116) dX5_makePart_51 (by decide) ?_
          refine go_vret rfl ⟨Nat.zero_le _, Nat.zero_le _⟩ dX5_makePart_116 ?_
          rw [show eMk k v (W, D) = eTok k v (W, D) from if_neg (by omega)]
          unfold eTok
          rw [if_neg (by omega), if_neg (by omega), if_pos (by omega)]
          exact ⟨rfl, h1, c1⟩
      · skip
        refine go_aload_n (q := 0) (i := 0) rfl rfl dX5_makePart_27 ?_
        refine go_iconst (v := nI 1) (by decide) dX5_makePart_28 ?_
        refine go_iload_n (q := 1) (i := 1) rfl rfl dX5_makePart_29 ?_
        refine go_bipush (v := nI 14) (by decide) dX5_makePart_30 ?_
        refine gn_sub (by omega) dX5_makePart_32 ?_
        refine go_callV okmX5_add lmX5_35 ⟨nle rfl, nle rfl⟩ hl.o ⟨by decide, rfl⟩ (ev_ladd hl h (by omega)) npmX5_add rfl (nle rfl) ⟨nle rfl, nle rfl⟩ dX5_makePart_33 ?_
        rintro _ m1 ⟨rfl, h1, c1⟩
        refine go_c0 ?_
        refine go_goto (tgt := 116) dX5_makePart_36 (by decide) ?_
        refine go_vret rfl ⟨Nat.zero_le _, Nat.zero_le _⟩ dX5_makePart_116 ?_
        rw [show eMk k v (W, D) = eTok k v (W, D) from if_neg (by omega)]
        unfold eTok
        rw [if_neg (by omega), if_pos (by omega)]
        exact ⟨rfl, h1, c1⟩
  · skip
    refine go_aload_n (q := 0) (i := 0) rfl rfl dX5_makePart_6 ?_
    refine go_iconst (v := nI 0) (by decide) dX5_makePart_7 ?_
    refine go_iload_n (q := 2) (i := 2) rfl rfl dX5_makePart_8 ?_
    refine go_callV okmX5_add lmX5_35 ⟨nle rfl, nle rfl⟩ hl.o ⟨by decide, rfl⟩ (ev_ladd hl h (by omega)) npmX5_add rfl (nle rfl) ⟨nle rfl, nle rfl⟩ dX5_makePart_9 ?_
    rintro _ m1 ⟨rfl, h1, c1⟩
    refine go_c0 ?_
    refine go_goto (tgt := 116) dX5_makePart_12 (by decide) ?_
    refine go_vret rfl ⟨Nat.zero_le _, Nat.zero_le _⟩ dX5_makePart_116 ?_
    rw [show eMk k v (W, D) = eTok k v (W, D) from if_neg (by omega)]
    unfold eTok
    rw [if_pos (by omega)]
    exact ⟨rfl, h1, c1⟩
