theorem nI_dn {d : Nat} (h : 0 < d) : nI d + Int32.ofInt (-1) = nI (d - 1) := by
  rw [show Int32.ofInt (-1) = - nI 1 by decide, ← Int32.sub_eq_add_neg, pk_sub h]
theorem GC.tl {m0 m : Me} {p : Nat → Nat} {s : Nat × Nat} {r : Nat → Int32} (h : GC m0 m p s) : GC m0 (sI m 9 r) p s := ⟨Fx.I h.1 (Or.inr (Or.inr rfl)), h.2⟩
/-- how often each kind of tell came -/
def TlC (m : Me) (c : Nat → Nat) : Prop := ∀ j, j < 4 → gI m 9 j = nI (c j) ∧ c j ≤ 1000
def gCn (k : Nat) (c : Nat → Nat) (s : Nat × Nat) : Nat × Nat := if k ≤ 3 ∧ moO k < c k + 1 then gFl 2 s else s
def gUp (k : Nat) (c : Nat → Nat) : Nat → Nat := fun j => if k ≤ 3 ∧ j = k then c j + 1 else c j
theorem gUp_ne {k : Nat} {c : Nat → Nat} (h : ¬ k ≤ 3) : gUp k c = c := funext (fun j => if_neg (fun q => h q.1))
theorem gUp_tl {m : Me} {k : Nat} {c : Nat → Nat} (h : ∀ j, j < 4 → gI m 9 j = nI (c j)) (hk : k ≤ 3) {m' : Me} (e : gI m' 9 = upd (gI m 9) k (nI (c k + 1))) : ∀ j, j < 4 → gI m' 9 j = nI (gUp k c j) := fun j hj => by
  rw [e]
  unfold gUp
  by_cases q : j = k
  · subst q; rw [if_pos ⟨hk, rfl⟩, upd_same]
  · rw [if_neg (fun w => q w.2), upd_ne q]; exact h j hj
set_option maxRecDepth 100000 in
set_option maxHeartbeats 8000000 in
theorem ev_gcount {m0 m : Me} {B : Nat → Nat} {n z : Nat} {s : Nat × Nat} (e : gEn m0 B n z) (h : GC m0 m (pG B n z) s) {k : Nat} {c : Nat → Nat} (hk : k ≤ 100) (hc : TlC m c) : Ev mX2_countTell [.ref 8, .ref 3, .int (nI k)] m (fun o m' => o = none ∧ GC m0 m' (pG B n z) (gCn k c s) ∧ ∀ j, j < 4 → gI m' 9 j = nI (gUp k c j)) := by
  refine ⟨plmX2_countTell, nle rfl, ?_⟩
  obtain ⟨a, ha, hm⟩ := h.2.2.2.2.2.2
  have hg := (e.to h).1
  have hw := (e.to h).2
  refine go_iload_n (q := 2) (i := 2) rfl rfl dX2_countTell_0 ?_
  refine gz_lt (by omega) (tgt := 45) dX2_countTell_1 (by decide) (fun h1 => by exfalso; omega) (fun h1 => ?_)
  refine go_iload_n (q := 2) (i := 2) rfl rfl dX2_countTell_4 ?_
  refine go_iconst (v := nI 3) (by decide) dX2_countTell_5 ?_
  refine gn_gt (by omega) (by omega) (tgt := 45) dX2_countTell_6 (by decide) (fun h6 => ?_) (fun h6 => ?_)
  · skip
    refine go_vret rfl ⟨Nat.zero_le _, Nat.zero_le _⟩ dX2_countTell_45 ?_
    rw [show gCn k c s = s from if_neg (by omega), gUp_ne (by omega)]
    exact ⟨rfl, h, fun j hj => (hc j hj).1⟩
  · skip
    refine go_aload_n (q := 0) (i := 0) rfl rfl dX2_countTell_9 ?_
    refine go_getR lf2_9 rfl hg.o hg.r0 dX2_countTell_10 ?_
    refine go_iload_n (q := 2) (i := 2) rfl rfl dX2_countTell_13 ?_
    refine go_dup2 rfl rfl dX2_countTell_14 ?_
    refine go_iald (j := k) hg.i0 (by omega) (by first | decide | omega) rfl dX2_countTell_15 ?_
    have hck := (hc k (by omega)).2
    rw [(hc k (by omega)).1]
    refine go_iconst (v := nI 1) (by decide) dX2_countTell_16 ?_
    refine gn_add dX2_countTell_17 ?_
    refine go_iast (j := k) hg.i0 (by omega) (by first | decide | omega) rfl dX2_countTell_18 ?_
    generalize hq : sI m 9 (upd (gI m 9) k (nI (c k + 1))) = m1
    have h1 : GC m0 m1 (pG B n z) s := by rw [← hq]; exact h.tl
    have hm1 : gI m1 8 1 = nI a := by rw [← hq]; exact hm
    have hg := (e.to h1).1
    have hw := (e.to h1).2
    refine go_aload_n (q := 0) (i := 0) rfl rfl dX2_countTell_19 ?_
    refine go_getR lf2_9 rfl hg.o hg.r0 dX2_countTell_20 ?_
    refine go_iload_n (q := 2) (i := 2) rfl rfl dX2_countTell_23 ?_
    refine go_iald (j := k) hg.i0 (by omega) (by first | decide | omega) rfl dX2_countTell_24 ?_
    rw [show gI m1 9 k = nI (c k + 1) by rw [← hq, gI_s, upd_same]]
    refine go_iload_n (q := 2) (i := 2) rfl rfl dX2_countTell_25 ?_
    refine go_callS okmX2_mostOf lmX2_63 ⟨nle rfl, nle rfl⟩ (ev_mostOf hk) npmX2_mostOf rfl (nle rfl) ⟨nle rfl, nle rfl⟩ dX2_countTell_26 ?_
    rintro _ mz ⟨rfl, hz⟩
    subst mz
    refine go_c1 ?_
    have hmo : moO k ≤ 12 := by unfold moO; split <;> (try split) <;> (try split) <;> omega
    refine gn_le (by omega) (by omega) (tgt := 45) dX2_countTell_29 (by decide) (fun h29 => ?_) (fun h29 => ?_)
    · skip
      refine go_vret rfl ⟨Nat.zero_le _, Nat.zero_le _⟩ dX2_countTell_45 ?_
      rw [show gCn k c s = s from if_neg (by omega)]
      exact ⟨rfl, h1, gUp_tl (fun j hj => (hc j hj).1) (by omega) (by rw [← hq, gI_s])⟩
    · skip
      refine go_aload_n (q := 1) (i := 1) rfl rfl dX2_countTell_32 ?_
      refine go_iconst (v := nI 2) (by decide) dX2_countTell_33 ?_
      refine go_aload_n (q := 1) (i := 1) rfl rfl dX2_countTell_34 ?_
      refine go_aload_n (q := 0) (i := 0) rfl rfl dX2_countTell_35 ?_
      refine go_getI lf2_15 rfl hg.o dX2_countTell_36 ?_
      rw [hm1]
      refine go_callV okmX10_placeAt lmX2_36 ⟨nle rfl, nle rfl⟩ hw.o ⟨by decide, rfl⟩ (ev_gp e h1 ha) npmX10_placeAt rfl (nle rfl) ⟨nle rfl, nle rfl⟩ dX2_countTell_39 ?_
      rintro _ mz ⟨rfl, hz⟩
      subst mz
      refine go_c1 ?_
      refine go_callV okmX10_fail lmX2_39 ⟨nle rfl, nle rfl⟩ hw.o ⟨by decide, rfl⟩ (ev_fail hw) npmX10_fail rfl (nle rfl) ⟨nle rfl, nle rfl⟩ dX2_countTell_42 ?_
      rintro _ m2 ⟨rfl, he⟩
      obtain ⟨f1, f2, f3⟩ := h1.fl ha hm1 (c := 2) (by decide) he
      refine go_c0 ?_
      refine go_vret rfl ⟨Nat.zero_le _, Nat.zero_le _⟩ dX2_countTell_45 ?_
      rw [show gCn k c s = gFl 2 s from if_pos ⟨by omega, h29⟩]
      exact ⟨rfl, f1, gUp_tl (fun j hj => (hc j hj).1) (by omega) (f2.trans (by rw [← hq, gI_s]))⟩
set_option maxRecDepth 100000 in
set_option maxHeartbeats 8000000 in
theorem ev_gsum {m0 m : Me} {B : Nat → Nat} {n z : Nat} {s : Nat × Nat} (e : gEn m0 B n z) (h : GC m0 m (pG B n z) s) : Ev mX2_checkSum [.ref 8, .ref 3] m (fun o m' => o = none ∧ GC m0 m' (pG B n z) (gSum (kG B n z) 401 0 true s) ∧ gI m' 9 = gI m 9) := by
  refine ⟨plmX2_checkSum, nle rfl, ?_⟩
  have key : ∀ i, i ≤ 401 → ∀ (m1 : Me) (d w : Nat) (due : Bool) (s1 : Nat × Nat) (x5 : Option Value), ((due = true ∧ w = 1) ∨ (due = false ∧ w = 0)) → d ≤ i → GC m0 m1 (pG B n z) s1 → gI m1 9 = gI m 9 → gSum (kG B n z) (401 - i) d due s1 = gSum (kG B n z) 401 0 true s → Go mX2_checkSum (fun o m' => o = none ∧ GC m0 m' (pG B n z) (gSum (kG B n z) 401 0 true s) ∧ gI m' 9 = gI m 9) 7 [some (.ref 8), some (.ref 3), some (.int (nI d)), some (.int (nI w)), some (.int (nI i)), x5] [] m1 0 0 := by
    refine loop_up 401 ?_ ?_
    · intro m1 d w due s1 x5 hdw hd h h9 hS
      have hg := (e.to h).1
      have hw := (e.to h).2
      rw [show gSum (kG B n z) (401 - 401) d due s1 = s1 from rfl] at hS
      refine go_iload (i := 4) rfl dX2_checkSum_7 ?_
      refine go_sipush (v := nI 400) (by decide) dX2_checkSum_9 ?_
      refine gn_gt (by omega) (by omega) (tgt := 148) dX2_checkSum_12 (by decide) (fun h12 => ?_) (fun h12 => by exfalso; omega)
      refine go_vret rfl ⟨Nat.zero_le _, Nat.zero_le _⟩ dX2_checkSum_148 ?_
      rw [← hS]
      exact ⟨rfl, h, h9⟩
    · intro i hi ih m1 d w due s1 x5 hdw hd h h9 hS
      have hg := (e.to h).1
      have hw := (e.to h).2
      have hk35 : kG B n z s1.2 ≤ 35 := kG_le
      rw [show 401 - i = (401 - (i + 1)) + 1 by omega, gSum] at hS
      by_cases z0 : s1.1 = 0
      · have hf := (h.2.2.1 z0).1
        have hm := (h.2.2.1 z0).2.2
        have ha : s1.2 ≤ 400 := h.2.2.2.2.2.1
        rw [if_neg (fun q => q z0)] at hS
        rcases hdw with ⟨rfl, rfl⟩ | ⟨rfl, rfl⟩
        · rw [if_pos rfl] at hS
          by_cases hk : kG B n z s1.2 = 32
          · rw [if_pos hk] at hS
            refine go_iload (i := 4) rfl dX2_checkSum_7 ?_
            refine go_sipush (v := nI 400) (by decide) dX2_checkSum_9 ?_
            refine gn_gt (by omega) (by omega) (tgt := 148) dX2_checkSum_12 (by decide) (fun h12 => by exfalso; omega) (fun h12 => ?_)
            refine go_aload_n (q := 1) (i := 1) rfl rfl dX2_checkSum_15 ?_
            refine go_getI lf2_23 rfl hw.o dX2_checkSum_16 ?_
            rw [hf]
            refine gz_ne (by omega) (tgt := 148) dX2_checkSum_19 (by decide) (fun h19 => by exfalso; omega) (fun h19 => ?_)
            refine go_aload_n (q := 1) (i := 1) rfl rfl dX2_checkSum_22 ?_
            refine go_aload_n (q := 0) (i := 0) rfl rfl dX2_checkSum_23 ?_
            refine go_getI lf2_15 rfl hg.o dX2_checkSum_24 ?_
            rw [hm]
            refine go_callV okmX10_kindAt lmX2_28 ⟨nle rfl, nle rfl⟩ hw.o ⟨by decide, rfl⟩ (ev_gk e h ha) npmX10_kindAt rfl (nle rfl) ⟨nle rfl, nle rfl⟩ dX2_checkSum_27 ?_
            rintro _ mz ⟨rfl, hz⟩
            subst mz
            rw [hk]
            refine go_c1 ?_
            refine go_istore (i := 5) dX2_checkSum_30 (nle rfl) (nle rfl) ?_
            refine go_iload_n (q := 3) (i := 3) rfl rfl dX2_checkSum_32 ?_
            refine gz_eq (by omega) (tgt := 75) dX2_checkSum_33 (by decide) (fun h33 => by exfalso; omega) (fun h33 => ?_)
            refine go_iload (i := 5) rfl dX2_checkSum_36 ?_
            refine go_bipush (v := nI 32) (by decide) dX2_checkSum_38 ?_
            refine gn_ne (by omega) (by omega) (tgt := 75) dX2_checkSum_40 (by decide) (fun h40 => by exfalso; omega) (fun h40 => ?_)
            refine gn_inc (i := 2) (a := d) (q := 1) rfl dX2_checkSum_43 (nle rfl) rfl ?_
            refine go_iload_n (q := 2) (i := 2) rfl rfl dX2_checkSum_46 ?_
            refine go_bipush (v := nI 6) (by decide) dX2_checkSum_47 ?_
            refine gn_le (by omega) (by omega) (tgt := 65) dX2_checkSum_49 (by decide) (fun h49 => ?_) (fun h49 => ?_)
            · skip
              refine go_aload_n (q := 0) (i := 0) rfl rfl dX2_checkSum_65 ?_
              refine go_aload_n (q := 1) (i := 1) rfl rfl dX2_checkSum_66 ?_
              refine go_bipush (v := nI 32) (by decide) dX2_checkSum_67 ?_
              refine go_callV okmX2_take lmX2_46 ⟨nle rfl, nle rfl⟩ hg.o ⟨by decide, rfl⟩ (ev_gtake e h (by omega)) npmX2_take rfl (nle rfl) ⟨nle rfl, nle rfl⟩ dX2_checkSum_69 ?_
              rintro _ m3 ⟨rfl, h3, h39⟩
              refine go_c0 ?_
              refine go_goto (tgt := 142) dX2_checkSum_72 (by decide) ?_
              refine gn_inc (i := 4) (a := i) (q := 1) rfl dX2_checkSum_142 (nle rfl) rfl ?_
              refine go_goto (tgt := 7) dX2_checkSum_145 (by decide) ?_
              exact ih m3 (d + 1) 1 true _ _ (Or.inl ⟨rfl, rfl⟩) (by omega) h3 (h39.trans h9) (by rw [if_neg (by omega)] at hS; exact hS)
            · skip
              refine go_aload_n (q := 1) (i := 1) rfl rfl dX2_checkSum_52 ?_
              refine go_iconst (v := nI 2) (by decide) dX2_checkSum_53 ?_
              refine go_aload_n (q := 1) (i := 1) rfl rfl dX2_checkSum_54 ?_
              refine go_aload_n (q := 0) (i := 0) rfl rfl dX2_checkSum_55 ?_
              refine go_getI lf2_15 rfl hg.o dX2_checkSum_56 ?_
              rw [hm]
              refine go_callV okmX10_placeAt lmX2_36 ⟨nle rfl, nle rfl⟩ hw.o ⟨by decide, rfl⟩ (ev_gp e h ha) npmX10_placeAt rfl (nle rfl) ⟨nle rfl, nle rfl⟩ dX2_checkSum_59 ?_
              rintro _ mz ⟨rfl, hz⟩
              subst mz
              refine go_c1 ?_
              refine go_callV okmX10_fail lmX2_39 ⟨nle rfl, nle rfl⟩ hw.o ⟨by decide, rfl⟩ (ev_fail hw) npmX10_fail rfl (nle rfl) ⟨nle rfl, nle rfl⟩ dX2_checkSum_62 ?_
              rintro _ m2 ⟨rfl, he⟩
              obtain ⟨f1, f2, f3⟩ := h.fl ha hm (c := 2) (by decide) he
              have hg := (e.to f1).1
              have hw := (e.to f1).2
              refine go_c0 ?_
              refine go_aload_n (q := 0) (i := 0) rfl rfl dX2_checkSum_65 ?_
              refine go_aload_n (q := 1) (i := 1) rfl rfl dX2_checkSum_66 ?_
              refine go_bipush (v := nI 32) (by decide) dX2_checkSum_67 ?_
              refine go_callV okmX2_take lmX2_46 ⟨nle rfl, nle rfl⟩ hg.o ⟨by decide, rfl⟩ (ev_gtake e f1 (by omega)) npmX2_take rfl (nle rfl) ⟨nle rfl, nle rfl⟩ dX2_checkSum_69 ?_
              rintro _ m3 ⟨rfl, h3, h39⟩
              refine go_c0 ?_
              refine go_goto (tgt := 142) dX2_checkSum_72 (by decide) ?_
              refine gn_inc (i := 4) (a := i) (q := 1) rfl dX2_checkSum_142 (nle rfl) rfl ?_
              refine go_goto (tgt := 7) dX2_checkSum_145 (by decide) ?_
              exact ih m3 (d + 1) 1 true _ _ (Or.inl ⟨rfl, rfl⟩) (by omega) h3 (h39.trans (f2.trans h9)) (by rw [if_pos (by omega)] at hS; rw [show gFl 2 s1 = (2, s1.2) from if_neg (fun q => q z0)]; exact hS)
          · rw [if_neg hk] at hS
            refine go_iload (i := 4) rfl dX2_checkSum_7 ?_
            refine go_sipush (v := nI 400) (by decide) dX2_checkSum_9 ?_
            refine gn_gt (by omega) (by omega) (tgt := 148) dX2_checkSum_12 (by decide) (fun h12 => by exfalso; omega) (fun h12 => ?_)
            refine go_aload_n (q := 1) (i := 1) rfl rfl dX2_checkSum_15 ?_
            refine go_getI lf2_23 rfl hw.o dX2_checkSum_16 ?_
            rw [hf]
            refine gz_ne (by omega) (tgt := 148) dX2_checkSum_19 (by decide) (fun h19 => by exfalso; omega) (fun h19 => ?_)
            refine go_aload_n (q := 1) (i := 1) rfl rfl dX2_checkSum_22 ?_
            refine go_aload_n (q := 0) (i := 0) rfl rfl dX2_checkSum_23 ?_
            refine go_getI lf2_15 rfl hg.o dX2_checkSum_24 ?_
            rw [hm]
            refine go_callV okmX10_kindAt lmX2_28 ⟨nle rfl, nle rfl⟩ hw.o ⟨by decide, rfl⟩ (ev_gk e h ha) npmX10_kindAt rfl (nle rfl) ⟨nle rfl, nle rfl⟩ dX2_checkSum_27 ?_
            rintro _ mz ⟨rfl, hz⟩
            subst mz
            refine go_c1 ?_
            refine go_istore (i := 5) dX2_checkSum_30 (nle rfl) (nle rfl) ?_
            refine go_iload_n (q := 3) (i := 3) rfl rfl dX2_checkSum_32 ?_
            refine gz_eq (by omega) (tgt := 75) dX2_checkSum_33 (by decide) (fun h33 => by exfalso; omega) (fun h33 => ?_)
            refine go_iload (i := 5) rfl dX2_checkSum_36 ?_
            refine go_bipush (v := nI 32) (by decide) dX2_checkSum_38 ?_
            refine gn_ne (by omega) (by omega) (tgt := 75) dX2_checkSum_40 (by decide) (fun h40 => ?_) (fun h40 => by exfalso; exact hk h40)
            refine go_iload_n (q := 3) (i := 3) rfl rfl dX2_checkSum_75 ?_
            refine gz_eq (by omega) (tgt := 104) dX2_checkSum_76 (by decide) (fun h76 => by exfalso; omega) (fun h76 => ?_)
            refine go_aload_n (q := 0) (i := 0) rfl rfl dX2_checkSum_79 ?_
            refine go_aload_n (q := 1) (i := 1) rfl rfl dX2_checkSum_80 ?_
            refine go_iload (i := 5) rfl dX2_checkSum_81 ?_
            refine go_callS okmX2_isUnit lmX2_69 ⟨nle rfl, nle rfl⟩ (ev_isUnit (by omega)) npmX2_isUnit rfl (nle rfl) ⟨nle rfl, nle rfl⟩ dX2_checkSum_83 ?_
            rintro _ mz ⟨rfl, hz⟩
            subst mz
            by_cases hu : isU (kG B n z s1.2)
            · skip
              rw [if_pos hu]
              rw [if_pos hu] at hS
              refine go_c1 ?_
              refine gz_eq (by omega) (tgt := 94) dX2_checkSum_86 (by decide) (fun h86 => by exfalso; omega) (fun h86 => ?_)
              refine go_iload (i := 5) rfl dX2_checkSum_89 ?_
              refine go_goto (tgt := 96) dX2_checkSum_91 (by decide) ?_
              refine go_callV okmX2_take lmX2_46 ⟨nle rfl, nle rfl⟩ hg.o ⟨by decide, rfl⟩ (ev_gtake e h (by omega)) npmX2_take rfl (nle rfl) ⟨nle rfl, nle rfl⟩ dX2_checkSum_96 ?_
              rintro _ m3 ⟨rfl, h3, h39⟩
              refine go_c0 ?_
              refine go_iconst (v := nI 0) (by decide) dX2_checkSum_99 ?_
              refine go_istore_n (q := 3) (i := 3) rfl dX2_checkSum_100 (nle rfl) (nle rfl) ?_
              refine go_goto (tgt := 142) dX2_checkSum_101 (by decide) ?_
              refine gn_inc (i := 4) (a := i) (q := 1) rfl dX2_checkSum_142 (nle rfl) rfl ?_
              refine go_goto (tgt := 7) dX2_checkSum_145 (by decide) ?_
              exact ih m3 d 0 false _ _ (Or.inr ⟨rfl, rfl⟩) (by omega) h3 (h39.trans h9) hS
            · skip
              rw [if_neg hu]
              rw [if_neg hu] at hS
              refine go_c1 ?_
              refine gz_eq (by omega) (tgt := 94) dX2_checkSum_86 (by decide) (fun h86 => ?_) (fun h86 => by exfalso; omega)
              refine go_bipush (v := nI 24) (by decide) dX2_checkSum_94 ?_
              refine go_callV okmX2_take lmX2_46 ⟨nle rfl, nle rfl⟩ hg.o ⟨by decide, rfl⟩ (ev_gtake e h (by omega)) npmX2_take rfl (nle rfl) ⟨nle rfl, nle rfl⟩ dX2_checkSum_96 ?_
              rintro _ m3 ⟨rfl, h3, h39⟩
              refine go_c0 ?_
              refine go_iconst (v := nI 0) (by decide) dX2_checkSum_99 ?_
              refine go_istore_n (q := 3) (i := 3) rfl dX2_checkSum_100 (nle rfl) (nle rfl) ?_
              refine go_goto (tgt := 142) dX2_checkSum_101 (by decide) ?_
              refine gn_inc (i := 4) (a := i) (q := 1) rfl dX2_checkSum_142 (nle rfl) rfl ?_
              refine go_goto (tgt := 7) dX2_checkSum_145 (by decide) ?_
              exact ih m3 d 0 false _ _ (Or.inr ⟨rfl, rfl⟩) (by omega) h3 (h39.trans h9) hS
        · rw [if_neg (by decide)] at hS
          refine go_iload (i := 4) rfl dX2_checkSum_7 ?_
          refine go_sipush (v := nI 400) (by decide) dX2_checkSum_9 ?_
          refine gn_gt (by omega) (by omega) (tgt := 148) dX2_checkSum_12 (by decide) (fun h12 => by exfalso; omega) (fun h12 => ?_)
          refine go_aload_n (q := 1) (i := 1) rfl rfl dX2_checkSum_15 ?_
          refine go_getI lf2_23 rfl hw.o dX2_checkSum_16 ?_
          rw [hf]
          refine gz_ne (by omega) (tgt := 148) dX2_checkSum_19 (by decide) (fun h19 => by exfalso; omega) (fun h19 => ?_)
          refine go_aload_n (q := 1) (i := 1) rfl rfl dX2_checkSum_22 ?_
          refine go_aload_n (q := 0) (i := 0) rfl rfl dX2_checkSum_23 ?_
          refine go_getI lf2_15 rfl hg.o dX2_checkSum_24 ?_
          rw [hm]
          refine go_callV okmX10_kindAt lmX2_28 ⟨nle rfl, nle rfl⟩ hw.o ⟨by decide, rfl⟩ (ev_gk e h ha) npmX10_kindAt rfl (nle rfl) ⟨nle rfl, nle rfl⟩ dX2_checkSum_27 ?_
          rintro _ mz ⟨rfl, hz⟩
          subst mz
          refine go_c1 ?_
          refine go_istore (i := 5) dX2_checkSum_30 (nle rfl) (nle rfl) ?_
          refine go_iload_n (q := 3) (i := 3) rfl rfl dX2_checkSum_32 ?_
          refine gz_eq (by omega) (tgt := 75) dX2_checkSum_33 (by decide) (fun h33 => ?_) (fun h33 => by exfalso; omega)
          refine go_iload_n (q := 3) (i := 3) rfl rfl dX2_checkSum_75 ?_
          refine gz_eq (by omega) (tgt := 104) dX2_checkSum_76 (by decide) (fun h76 => ?_) (fun h76 => by exfalso; omega)
          refine go_iload (i := 5) rfl dX2_checkSum_104 ?_
          refine go_callS okmX2_isOperator lmX2_73 ⟨nle rfl, nle rfl⟩ (ev_isOper (by omega)) npmX2_isOperator rfl (nle rfl) ⟨nle rfl, nle rfl⟩ dX2_checkSum_106 ?_
          rintro _ mz ⟨rfl, hz⟩
          subst mz
          by_cases ho : isOp (kG B n z s1.2)
          · skip
            rw [if_pos ho]
            rw [if_pos ho] at hS
            refine go_c1 ?_
            refine gz_eq (by omega) (tgt := 124) dX2_checkSum_109 (by decide) (fun h109 => by exfalso; omega) (fun h109 => ?_)
            refine go_aload_n (q := 0) (i := 0) rfl rfl dX2_checkSum_112 ?_
            refine go_aload_n (q := 1) (i := 1) rfl rfl dX2_checkSum_113 ?_
            refine go_iload (i := 5) rfl dX2_checkSum_114 ?_
            refine go_callV okmX2_take lmX2_46 ⟨nle rfl, nle rfl⟩ hg.o ⟨by decide, rfl⟩ (ev_gtake e h (by omega)) npmX2_take rfl (nle rfl) ⟨nle rfl, nle rfl⟩ dX2_checkSum_116 ?_
            rintro _ m3 ⟨rfl, h3, h39⟩
            refine go_c0 ?_
            refine go_iconst (v := nI 1) (by decide) dX2_checkSum_119 ?_
            refine go_istore_n (q := 3) (i := 3) rfl dX2_checkSum_120 (nle rfl) (nle rfl) ?_
            refine go_goto (tgt := 142) dX2_checkSum_121 (by decide) ?_
            refine gn_inc (i := 4) (a := i) (q := 1) rfl dX2_checkSum_142 (nle rfl) rfl ?_
            refine go_goto (tgt := 7) dX2_checkSum_145 (by decide) ?_
            exact ih m3 d 1 true _ _ (Or.inl ⟨rfl, rfl⟩) (by omega) h3 (h39.trans h9) hS
          · skip
            rw [if_neg ho]
            rw [if_neg ho] at hS
            refine go_c1 ?_
            refine gz_eq (by omega) (tgt := 124) dX2_checkSum_109 (by decide) (fun h109 => ?_) (fun h109 => by exfalso; omega)
            refine go_iload_n (q := 2) (i := 2) rfl rfl dX2_checkSum_124 ?_
            refine gz_le (by omega) (tgt := 141) dX2_checkSum_125 (by decide) (fun h125 => ?_) (fun h125 => ?_)
            · skip
              refine go_vret rfl ⟨Nat.zero_le _, Nat.zero_le _⟩ dX2_checkSum_141 ?_
              rw [if_neg (by omega)] at hS
              rw [← hS]
              exact ⟨rfl, h, h9⟩
            · skip
              refine go_aload_n (q := 0) (i := 0) rfl rfl dX2_checkSum_128 ?_
              refine go_aload_n (q := 1) (i := 1) rfl rfl dX2_checkSum_129 ?_
              refine go_bipush (v := nI 33) (by decide) dX2_checkSum_130 ?_
              refine go_callV okmX2_take lmX2_46 ⟨nle rfl, nle rfl⟩ hg.o ⟨by decide, rfl⟩ (ev_gtake e h (by omega)) npmX2_take rfl (nle rfl) ⟨nle rfl, nle rfl⟩ dX2_checkSum_132 ?_
              rintro _ m3 ⟨rfl, h3, h39⟩
              refine go_c0 ?_
              refine go_iinc (i := 2) dX2_checkSum_135 (nle rfl) rfl ?_
              rw [nI_dn (by omega)]
              refine go_goto (tgt := 142) dX2_checkSum_138 (by decide) ?_
              refine gn_inc (i := 4) (a := i) (q := 1) rfl dX2_checkSum_142 (nle rfl) rfl ?_
              refine go_goto (tgt := 7) dX2_checkSum_145 (by decide) ?_
              exact ih m3 (d - 1) 0 false _ _ (Or.inr ⟨rfl, rfl⟩) (by omega) h3 (h39.trans h9) (by rw [if_pos (by omega)] at hS; exact hS)
      · have hf := (h.2.2.2.1 z0).1
        rw [if_pos z0] at hS
        refine go_iload (i := 4) rfl dX2_checkSum_7 ?_
        refine go_sipush (v := nI 400) (by decide) dX2_checkSum_9 ?_
        refine gn_gt (by omega) (by omega) (tgt := 148) dX2_checkSum_12 (by decide) (fun h12 => by exfalso; omega) (fun h12 => ?_)
        refine go_aload_n (q := 1) (i := 1) rfl rfl dX2_checkSum_15 ?_
        refine go_getI lf2_23 rfl hw.o dX2_checkSum_16 ?_
        have hs9 := h.2.2.2.2.1
        rw [hf]
        refine gz_ne (by omega) (tgt := 148) dX2_checkSum_19 (by decide) (fun h19 => ?_) (fun h19 => by exfalso; exact z0 (by have := h.2.2.2.2.1; omega))
        refine go_vret rfl ⟨Nat.zero_le _, Nat.zero_le _⟩ dX2_checkSum_148 ?_
        rw [← hS]
        exact ⟨rfl, h, h9⟩
  refine go_iconst (v := nI 0) (by decide) dX2_checkSum_0 ?_
  refine go_istore_n (q := 2) (i := 2) rfl dX2_checkSum_1 (nle rfl) (nle rfl) ?_
  refine go_iconst (v := nI 1) (by decide) dX2_checkSum_2 ?_
  refine go_istore_n (q := 3) (i := 3) rfl dX2_checkSum_3 (nle rfl) (nle rfl) ?_
  refine go_iconst (v := nI 0) (by decide) dX2_checkSum_4 ?_
  refine go_istore (i := 4) dX2_checkSum_5 (nle rfl) (nle rfl) ?_
  exact key 0 (Nat.zero_le _) m 0 1 true s _ (Or.inl ⟨rfl, rfl⟩) (Nat.le_refl _) h rfl rfl
