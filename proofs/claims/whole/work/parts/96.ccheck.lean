abbrev gS (K : Nat → Nat) (s : Nat × Nat) : Nat × Nat := gSum K 401 0 true s
/-- one IF of a law -/
def gIf (K : Nat → Nat) (c : Nat) (s : Nat × Nat) : Nat × Nat := gTk K 13 (gS K (gTk K 12 (gS K (gTk K 31 (gS K (gTk K 11 (if 4 < c then gFl 2 s else s)))))))
def gIfs (K : Nat → Nat) : Nat → Nat → Nat × Nat → Nat × Nat
  | 0, _, s => s
  | n + 1, c, s => if s.1 = 0 ∧ K s.2 = 11 then gIfs K n (c + 1) (gIf K c s) else s
def gLaw (K : Nat → Nat) (s : Nat × Nat) : Nat × Nat := gS K (gIfs K 400 1 (gTk K 26 s))
def gTell (K : Nat → Nat) (c : Nat → Nat) (k : Nat) (s : Nat × Nat) : Nat × Nat := if 10 < k then gFl 1 s else gTk K 25 (if 4 ≤ k ∧ k ≤ 7 then gLaw K (gTk K k (gCn k c s)) else gMany K 24 (nuO k) (gMany K 23 (nmO k) (gTk K k (gCn k c s))))
def gChk (K : Nat → Nat) : Nat → (Nat → Nat) → Nat × Nat → Nat × Nat
  | 0, _, s => s
  | n + 1, c, s => if s.1 = 0 ∧ K s.2 ≠ 34 then gChk K n (gUp (K s.2) c) (gTell K c (K s.2) s) else s
theorem gUp_le {k i : Nat} {c : Nat → Nat} (h : ∀ j, j < 4 → c j ≤ i) : ∀ j, j < 4 → gUp k c j ≤ i + 1 := fun j hj => by
  unfold gUp
  have := h j hj
  split <;> omega
theorem nmO_le (k : Nat) : nmO k ≤ 2 := by unfold nmO; split <;> (try split) <;> omega
theorem nuO_le (k : Nat) : nuO k ≤ 3 := by unfold nuO; split <;> (try split) <;> (try split) <;> omega
set_option maxRecDepth 100000 in
set_option maxHeartbeats 8000000 in
theorem ev_glaw {m0 m : Me} {B : Nat → Nat} {n z : Nat} {s : Nat × Nat} (e : gEn m0 B n z) (h : GC m0 m (pG B n z) s) : Ev mX2_checkLaw [.ref 8, .ref 3] m (fun o m' => o = none ∧ GC m0 m' (pG B n z) (gLaw (kG B n z) s) ∧ gI m' 9 = gI m 9) := by
  refine ⟨plmX2_checkLaw, nle rfl, ?_⟩
  have h9 : gI m 9 = gI m 9 := rfl
  have key : ∀ i, i ≤ 400 → ∀ (m1 : Me) (s1 : Nat × Nat), GC m0 m1 (pG B n z) s1 → gI m1 9 = gI m 9 → gS (kG B n z) (gIfs (kG B n z) (400 - i) (i + 1) s1) = gLaw (kG B n z) s → Go mX2_checkLaw (fun o m' => o = none ∧ GC m0 m' (pG B n z) (gLaw (kG B n z) s) ∧ gI m' 9 = gI m 9) 9 [some (.ref 8), some (.ref 3), some (.int (nI (i + 1)))] [] m1 0 0 := by
    refine loop_up 400 ?_ ?_
    · intro m1 s1 h h9 hS
      have hg := (e.to h).1
      have hw := (e.to h).2
      rw [show gIfs (kG B n z) (400 - 400) (400 + 1) s1 = s1 from rfl] at hS
      refine go_iload_n (q := 2) (i := 2) rfl rfl dX2_checkLaw_9 ?_
      refine go_sipush (v := nI 400) (by decide) dX2_checkLaw_10 ?_
      refine gn_gt (by omega) (by omega) (tgt := 103) dX2_checkLaw_13 (by decide) (fun h13 => ?_) (fun h13 => by exfalso; omega)
      refine go_aload_n (q := 0) (i := 0) rfl rfl dX2_checkLaw_103 ?_
      refine go_aload_n (q := 1) (i := 1) rfl rfl dX2_checkLaw_104 ?_
      refine go_callV okmX2_checkSum lmX2_66 ⟨nle rfl, nle rfl⟩ hg.o ⟨by decide, rfl⟩ (ev_gsum e h) npmX2_checkSum rfl (nle rfl) ⟨nle rfl, nle rfl⟩ dX2_checkLaw_105 ?_
      rintro _ m3 ⟨rfl, h, h9b⟩
      have h9 := h9b.trans h9
      have hg := (e.to h).1
      have hw := (e.to h).2
      refine go_c0 ?_
      refine go_vret rfl ⟨Nat.zero_le _, Nat.zero_le _⟩ dX2_checkLaw_108 ?_
      rw [← hS]
      exact ⟨rfl, h, h9⟩
    · intro i hi ih m1 s1 h h9 hS
      have hg := (e.to h).1
      have hw := (e.to h).2
      have hk35 : kG B n z s1.2 ≤ 35 := kG_le
      rw [show 400 - i = (400 - (i + 1)) + 1 by omega, gIfs] at hS
      by_cases z0 : s1.1 = 0
      · have hf := (h.2.2.1 z0).1
        have hm := (h.2.2.1 z0).2.2
        have ha : s1.2 ≤ 400 := h.2.2.2.2.2.1
        by_cases hk : kG B n z s1.2 = 11
        · rw [if_pos ⟨z0, hk⟩] at hS
          refine go_iload_n (q := 2) (i := 2) rfl rfl dX2_checkLaw_9 ?_
          refine go_sipush (v := nI 400) (by decide) dX2_checkLaw_10 ?_
          refine gn_gt (by omega) (by omega) (tgt := 103) dX2_checkLaw_13 (by decide) (fun h13 => by exfalso; omega) (fun h13 => ?_)
          refine go_aload_n (q := 1) (i := 1) rfl rfl dX2_checkLaw_16 ?_
          refine go_getI lf2_23 rfl hw.o dX2_checkLaw_17 ?_
          rw [hf]
          refine gz_ne (by omega) (tgt := 103) dX2_checkLaw_20 (by decide) (fun h20 => by exfalso; omega) (fun h20 => ?_)
          refine go_aload_n (q := 1) (i := 1) rfl rfl dX2_checkLaw_23 ?_
          refine go_aload_n (q := 0) (i := 0) rfl rfl dX2_checkLaw_24 ?_
          refine go_getI lf2_15 rfl hg.o dX2_checkLaw_25 ?_
          rw [hm]
          refine go_callV okmX10_kindAt lmX2_28 ⟨nle rfl, nle rfl⟩ hw.o ⟨by decide, rfl⟩ (ev_gk e h ha) npmX10_kindAt rfl (nle rfl) ⟨nle rfl, nle rfl⟩ dX2_checkLaw_28 ?_
          rintro _ mz ⟨rfl, hz⟩
          subst mz
          rw [hk]
          refine go_c1 ?_
          refine go_bipush (v := nI 11) (by decide) dX2_checkLaw_31 ?_
          refine gn_ne (by omega) (by omega) (tgt := 103) dX2_checkLaw_33 (by decide) (fun h33 => by exfalso; omega) (fun h33 => ?_)
          refine go_iload_n (q := 2) (i := 2) rfl rfl dX2_checkLaw_36 ?_
          refine go_iconst (v := nI 4) (by decide) dX2_checkLaw_37 ?_
          refine gn_le (by omega) (by omega) (tgt := 54) dX2_checkLaw_38 (by decide) (fun h38 => ?_) (fun h38 => ?_)
          · skip
            refine go_aload_n (q := 0) (i := 0) rfl rfl dX2_checkLaw_54 ?_
            refine go_aload_n (q := 1) (i := 1) rfl rfl dX2_checkLaw_55 ?_
            refine go_bipush (v := nI 11) (by decide) dX2_checkLaw_56 ?_
            refine go_callV okmX2_take lmX2_46 ⟨nle rfl, nle rfl⟩ hg.o ⟨by decide, rfl⟩ (ev_gtake e h (by omega)) npmX2_take rfl (nle rfl) ⟨nle rfl, nle rfl⟩ dX2_checkLaw_58 ?_
            rintro _ m3 ⟨rfl, h, h9b⟩
            have h9 := h9b.trans h9
            have hg := (e.to h).1
            have hw := (e.to h).2
            refine go_c0 ?_
            refine go_aload_n (q := 0) (i := 0) rfl rfl dX2_checkLaw_61 ?_
            refine go_aload_n (q := 1) (i := 1) rfl rfl dX2_checkLaw_62 ?_
            refine go_callV okmX2_checkSum lmX2_66 ⟨nle rfl, nle rfl⟩ hg.o ⟨by decide, rfl⟩ (ev_gsum e h) npmX2_checkSum rfl (nle rfl) ⟨nle rfl, nle rfl⟩ dX2_checkLaw_63 ?_
            rintro _ m3 ⟨rfl, h, h9b⟩
            have h9 := h9b.trans h9
            have hg := (e.to h).1
            have hw := (e.to h).2
            refine go_c0 ?_
            refine go_aload_n (q := 0) (i := 0) rfl rfl dX2_checkLaw_66 ?_
            refine go_aload_n (q := 1) (i := 1) rfl rfl dX2_checkLaw_67 ?_
            refine go_bipush (v := nI 31) (by decide) dX2_checkLaw_68 ?_
            refine go_callV okmX2_take lmX2_46 ⟨nle rfl, nle rfl⟩ hg.o ⟨by decide, rfl⟩ (ev_gtake e h (by omega)) npmX2_take rfl (nle rfl) ⟨nle rfl, nle rfl⟩ dX2_checkLaw_70 ?_
            rintro _ m3 ⟨rfl, h, h9b⟩
            have h9 := h9b.trans h9
            have hg := (e.to h).1
            have hw := (e.to h).2
            refine go_c0 ?_
            refine go_aload_n (q := 0) (i := 0) rfl rfl dX2_checkLaw_73 ?_
            refine go_aload_n (q := 1) (i := 1) rfl rfl dX2_checkLaw_74 ?_
            refine go_callV okmX2_checkSum lmX2_66 ⟨nle rfl, nle rfl⟩ hg.o ⟨by decide, rfl⟩ (ev_gsum e h) npmX2_checkSum rfl (nle rfl) ⟨nle rfl, nle rfl⟩ dX2_checkLaw_75 ?_
            rintro _ m3 ⟨rfl, h, h9b⟩
            have h9 := h9b.trans h9
            have hg := (e.to h).1
            have hw := (e.to h).2
            refine go_c0 ?_
            refine go_aload_n (q := 0) (i := 0) rfl rfl dX2_checkLaw_78 ?_
            refine go_aload_n (q := 1) (i := 1) rfl rfl dX2_checkLaw_79 ?_
            refine go_bipush (v := nI 12) (by decide) dX2_checkLaw_80 ?_
            refine go_callV okmX2_take lmX2_46 ⟨nle rfl, nle rfl⟩ hg.o ⟨by decide, rfl⟩ (ev_gtake e h (by omega)) npmX2_take rfl (nle rfl) ⟨nle rfl, nle rfl⟩ dX2_checkLaw_82 ?_
            rintro _ m3 ⟨rfl, h, h9b⟩
            have h9 := h9b.trans h9
            have hg := (e.to h).1
            have hw := (e.to h).2
            refine go_c0 ?_
            refine go_aload_n (q := 0) (i := 0) rfl rfl dX2_checkLaw_85 ?_
            refine go_aload_n (q := 1) (i := 1) rfl rfl dX2_checkLaw_86 ?_
            refine go_callV okmX2_checkSum lmX2_66 ⟨nle rfl, nle rfl⟩ hg.o ⟨by decide, rfl⟩ (ev_gsum e h) npmX2_checkSum rfl (nle rfl) ⟨nle rfl, nle rfl⟩ dX2_checkLaw_87 ?_
            rintro _ m3 ⟨rfl, h, h9b⟩
            have h9 := h9b.trans h9
            have hg := (e.to h).1
            have hw := (e.to h).2
            refine go_c0 ?_
            refine go_aload_n (q := 0) (i := 0) rfl rfl dX2_checkLaw_90 ?_
            refine go_aload_n (q := 1) (i := 1) rfl rfl dX2_checkLaw_91 ?_
            refine go_bipush (v := nI 13) (by decide) dX2_checkLaw_92 ?_
            refine go_callV okmX2_take lmX2_46 ⟨nle rfl, nle rfl⟩ hg.o ⟨by decide, rfl⟩ (ev_gtake e h (by omega)) npmX2_take rfl (nle rfl) ⟨nle rfl, nle rfl⟩ dX2_checkLaw_94 ?_
            rintro _ m3 ⟨rfl, h, h9b⟩
            have h9 := h9b.trans h9
            have hg := (e.to h).1
            have hw := (e.to h).2
            refine go_c0 ?_
            refine gn_inc (i := 2) (a := i + 1) (q := 1) rfl dX2_checkLaw_97 (nle rfl) rfl ?_
            refine go_goto (tgt := 9) dX2_checkLaw_100 (by decide) ?_
            exact ih m3 _ h h9 (by unfold gIf at hS; rw [if_neg (by omega)] at hS; exact hS)
          · skip
            refine go_aload_n (q := 1) (i := 1) rfl rfl dX2_checkLaw_41 ?_
            refine go_iconst (v := nI 2) (by decide) dX2_checkLaw_42 ?_
            refine go_aload_n (q := 1) (i := 1) rfl rfl dX2_checkLaw_43 ?_
            refine go_aload_n (q := 0) (i := 0) rfl rfl dX2_checkLaw_44 ?_
            refine go_getI lf2_15 rfl hg.o dX2_checkLaw_45 ?_
            rw [hm]
            refine go_callV okmX10_placeAt lmX2_36 ⟨nle rfl, nle rfl⟩ hw.o ⟨by decide, rfl⟩ (ev_gp e h ha) npmX10_placeAt rfl (nle rfl) ⟨nle rfl, nle rfl⟩ dX2_checkLaw_48 ?_
            rintro _ mz ⟨rfl, hz⟩
            subst mz
            refine go_c1 ?_
            refine go_callV okmX10_fail lmX2_39 ⟨nle rfl, nle rfl⟩ hw.o ⟨by decide, rfl⟩ (ev_fail hw) npmX10_fail rfl (nle rfl) ⟨nle rfl, nle rfl⟩ dX2_checkLaw_51 ?_
            rintro _ m2 ⟨rfl, he⟩
            obtain ⟨h, h9b, h8b⟩ := h.fl ha hm (c := 2) (by decide) he
            have h9 := h9b.trans h9
            have hg := (e.to h).1
            have hw := (e.to h).2
            refine go_c0 ?_
            refine go_aload_n (q := 0) (i := 0) rfl rfl dX2_checkLaw_54 ?_
            refine go_aload_n (q := 1) (i := 1) rfl rfl dX2_checkLaw_55 ?_
            refine go_bipush (v := nI 11) (by decide) dX2_checkLaw_56 ?_
            refine go_callV okmX2_take lmX2_46 ⟨nle rfl, nle rfl⟩ hg.o ⟨by decide, rfl⟩ (ev_gtake e h (by omega)) npmX2_take rfl (nle rfl) ⟨nle rfl, nle rfl⟩ dX2_checkLaw_58 ?_
            rintro _ m3 ⟨rfl, h, h9b⟩
            have h9 := h9b.trans h9
            have hg := (e.to h).1
            have hw := (e.to h).2
            refine go_c0 ?_
            refine go_aload_n (q := 0) (i := 0) rfl rfl dX2_checkLaw_61 ?_
            refine go_aload_n (q := 1) (i := 1) rfl rfl dX2_checkLaw_62 ?_
            refine go_callV okmX2_checkSum lmX2_66 ⟨nle rfl, nle rfl⟩ hg.o ⟨by decide, rfl⟩ (ev_gsum e h) npmX2_checkSum rfl (nle rfl) ⟨nle rfl, nle rfl⟩ dX2_checkLaw_63 ?_
            rintro _ m3 ⟨rfl, h, h9b⟩
            have h9 := h9b.trans h9
            have hg := (e.to h).1
            have hw := (e.to h).2
            refine go_c0 ?_
            refine go_aload_n (q := 0) (i := 0) rfl rfl dX2_checkLaw_66 ?_
            refine go_aload_n (q := 1) (i := 1) rfl rfl dX2_checkLaw_67 ?_
            refine go_bipush (v := nI 31) (by decide) dX2_checkLaw_68 ?_
            refine go_callV okmX2_take lmX2_46 ⟨nle rfl, nle rfl⟩ hg.o ⟨by decide, rfl⟩ (ev_gtake e h (by omega)) npmX2_take rfl (nle rfl) ⟨nle rfl, nle rfl⟩ dX2_checkLaw_70 ?_
            rintro _ m3 ⟨rfl, h, h9b⟩
            have h9 := h9b.trans h9
            have hg := (e.to h).1
            have hw := (e.to h).2
            refine go_c0 ?_
            refine go_aload_n (q := 0) (i := 0) rfl rfl dX2_checkLaw_73 ?_
            refine go_aload_n (q := 1) (i := 1) rfl rfl dX2_checkLaw_74 ?_
            refine go_callV okmX2_checkSum lmX2_66 ⟨nle rfl, nle rfl⟩ hg.o ⟨by decide, rfl⟩ (ev_gsum e h) npmX2_checkSum rfl (nle rfl) ⟨nle rfl, nle rfl⟩ dX2_checkLaw_75 ?_
            rintro _ m3 ⟨rfl, h, h9b⟩
            have h9 := h9b.trans h9
            have hg := (e.to h).1
            have hw := (e.to h).2
            refine go_c0 ?_
            refine go_aload_n (q := 0) (i := 0) rfl rfl dX2_checkLaw_78 ?_
            refine go_aload_n (q := 1) (i := 1) rfl rfl dX2_checkLaw_79 ?_
            refine go_bipush (v := nI 12) (by decide) dX2_checkLaw_80 ?_
            refine go_callV okmX2_take lmX2_46 ⟨nle rfl, nle rfl⟩ hg.o ⟨by decide, rfl⟩ (ev_gtake e h (by omega)) npmX2_take rfl (nle rfl) ⟨nle rfl, nle rfl⟩ dX2_checkLaw_82 ?_
            rintro _ m3 ⟨rfl, h, h9b⟩
            have h9 := h9b.trans h9
            have hg := (e.to h).1
            have hw := (e.to h).2
            refine go_c0 ?_
            refine go_aload_n (q := 0) (i := 0) rfl rfl dX2_checkLaw_85 ?_
            refine go_aload_n (q := 1) (i := 1) rfl rfl dX2_checkLaw_86 ?_
            refine go_callV okmX2_checkSum lmX2_66 ⟨nle rfl, nle rfl⟩ hg.o ⟨by decide, rfl⟩ (ev_gsum e h) npmX2_checkSum rfl (nle rfl) ⟨nle rfl, nle rfl⟩ dX2_checkLaw_87 ?_
            rintro _ m3 ⟨rfl, h, h9b⟩
            have h9 := h9b.trans h9
            have hg := (e.to h).1
            have hw := (e.to h).2
            refine go_c0 ?_
            refine go_aload_n (q := 0) (i := 0) rfl rfl dX2_checkLaw_90 ?_
            refine go_aload_n (q := 1) (i := 1) rfl rfl dX2_checkLaw_91 ?_
            refine go_bipush (v := nI 13) (by decide) dX2_checkLaw_92 ?_
            refine go_callV okmX2_take lmX2_46 ⟨nle rfl, nle rfl⟩ hg.o ⟨by decide, rfl⟩ (ev_gtake e h (by omega)) npmX2_take rfl (nle rfl) ⟨nle rfl, nle rfl⟩ dX2_checkLaw_94 ?_
            rintro _ m3 ⟨rfl, h, h9b⟩
            have h9 := h9b.trans h9
            have hg := (e.to h).1
            have hw := (e.to h).2
            refine go_c0 ?_
            refine gn_inc (i := 2) (a := i + 1) (q := 1) rfl dX2_checkLaw_97 (nle rfl) rfl ?_
            refine go_goto (tgt := 9) dX2_checkLaw_100 (by decide) ?_
            exact ih m3 _ h h9 (by unfold gIf at hS; rw [if_pos (by omega)] at hS; exact hS)
        · rw [if_neg (fun q => hk q.2)] at hS
          refine go_iload_n (q := 2) (i := 2) rfl rfl dX2_checkLaw_9 ?_
          refine go_sipush (v := nI 400) (by decide) dX2_checkLaw_10 ?_
          refine gn_gt (by omega) (by omega) (tgt := 103) dX2_checkLaw_13 (by decide) (fun h13 => by exfalso; omega) (fun h13 => ?_)
          refine go_aload_n (q := 1) (i := 1) rfl rfl dX2_checkLaw_16 ?_
          refine go_getI lf2_23 rfl hw.o dX2_checkLaw_17 ?_
          rw [hf]
          refine gz_ne (by omega) (tgt := 103) dX2_checkLaw_20 (by decide) (fun h20 => by exfalso; omega) (fun h20 => ?_)
          refine go_aload_n (q := 1) (i := 1) rfl rfl dX2_checkLaw_23 ?_
          refine go_aload_n (q := 0) (i := 0) rfl rfl dX2_checkLaw_24 ?_
          refine go_getI lf2_15 rfl hg.o dX2_checkLaw_25 ?_
          rw [hm]
          refine go_callV okmX10_kindAt lmX2_28 ⟨nle rfl, nle rfl⟩ hw.o ⟨by decide, rfl⟩ (ev_gk e h ha) npmX10_kindAt rfl (nle rfl) ⟨nle rfl, nle rfl⟩ dX2_checkLaw_28 ?_
          rintro _ mz ⟨rfl, hz⟩
          subst mz
          refine go_c1 ?_
          refine go_bipush (v := nI 11) (by decide) dX2_checkLaw_31 ?_
          refine gn_ne (by omega) (by omega) (tgt := 103) dX2_checkLaw_33 (by decide) (fun h33 => ?_) (fun h33 => by exfalso; omega)
          refine go_aload_n (q := 0) (i := 0) rfl rfl dX2_checkLaw_103 ?_
          refine go_aload_n (q := 1) (i := 1) rfl rfl dX2_checkLaw_104 ?_
          refine go_callV okmX2_checkSum lmX2_66 ⟨nle rfl, nle rfl⟩ hg.o ⟨by decide, rfl⟩ (ev_gsum e h) npmX2_checkSum rfl (nle rfl) ⟨nle rfl, nle rfl⟩ dX2_checkLaw_105 ?_
          rintro _ m3 ⟨rfl, h, h9b⟩
          have h9 := h9b.trans h9
          have hg := (e.to h).1
          have hw := (e.to h).2
          refine go_c0 ?_
          refine go_vret rfl ⟨Nat.zero_le _, Nat.zero_le _⟩ dX2_checkLaw_108 ?_
          rw [← hS]
          exact ⟨rfl, h, h9⟩
      · have hf := (h.2.2.2.1 z0).1
        have hs9 := h.2.2.2.2.1
        rw [if_neg (fun q => z0 q.1)] at hS
        refine go_iload_n (q := 2) (i := 2) rfl rfl dX2_checkLaw_9 ?_
        refine go_sipush (v := nI 400) (by decide) dX2_checkLaw_10 ?_
        refine gn_gt (by omega) (by omega) (tgt := 103) dX2_checkLaw_13 (by decide) (fun h13 => by exfalso; omega) (fun h13 => ?_)
        refine go_aload_n (q := 1) (i := 1) rfl rfl dX2_checkLaw_16 ?_
        refine go_getI lf2_23 rfl hw.o dX2_checkLaw_17 ?_
        rw [hf]
        refine gz_ne (by omega) (tgt := 103) dX2_checkLaw_20 (by decide) (fun h20 => ?_) (fun h20 => by exfalso; omega)
        refine go_aload_n (q := 0) (i := 0) rfl rfl dX2_checkLaw_103 ?_
        refine go_aload_n (q := 1) (i := 1) rfl rfl dX2_checkLaw_104 ?_
        refine go_callV okmX2_checkSum lmX2_66 ⟨nle rfl, nle rfl⟩ hg.o ⟨by decide, rfl⟩ (ev_gsum e h) npmX2_checkSum rfl (nle rfl) ⟨nle rfl, nle rfl⟩ dX2_checkLaw_105 ?_
        rintro _ m3 ⟨rfl, h, h9b⟩
        have h9 := h9b.trans h9
        have hg := (e.to h).1
        have hw := (e.to h).2
        refine go_c0 ?_
        refine go_vret rfl ⟨Nat.zero_le _, Nat.zero_le _⟩ dX2_checkLaw_108 ?_
        rw [← hS]
        exact ⟨rfl, h, h9⟩
  have hg := (e.to h).1
  have hw := (e.to h).2
  refine go_aload_n (q := 0) (i := 0) rfl rfl dX2_checkLaw_0 ?_
  refine go_aload_n (q := 1) (i := 1) rfl rfl dX2_checkLaw_1 ?_
  refine go_bipush (v := nI 26) (by decide) dX2_checkLaw_2 ?_
  refine go_callV okmX2_take lmX2_46 ⟨nle rfl, nle rfl⟩ hg.o ⟨by decide, rfl⟩ (ev_gtake e h (by omega)) npmX2_take rfl (nle rfl) ⟨nle rfl, nle rfl⟩ dX2_checkLaw_4 ?_
  rintro _ m3 ⟨rfl, h, h9b⟩
  have h9 := h9b.trans h9
  have hg := (e.to h).1
  have hw := (e.to h).2
  refine go_c0 ?_
  refine go_iconst (v := nI 1) (by decide) dX2_checkLaw_7 ?_
  refine go_istore_n (q := 2) (i := 2) rfl dX2_checkLaw_8 (nle rfl) (nle rfl) ?_
  exact key 0 (Nat.zero_le _) _ _ h h9 rfl
set_option maxRecDepth 100000 in
set_option maxHeartbeats 8000000 in
theorem ev_gtell {m0 m : Me} {B : Nat → Nat} {n z : Nat} {s : Nat × Nat} (e : gEn m0 B n z) (h : GC m0 m (pG B n z) s) {k : Nat} {c : Nat → Nat} (hk : k ≤ 100) (hc : TlC m c) : Ev mX2_checkTell [.ref 8, .ref 3, .int (nI k)] m (fun o m' => o = none ∧ GC m0 m' (pG B n z) (gTell (kG B n z) c k s) ∧ ∀ j, j < 4 → gI m' 9 j = nI (gUp k c j)) := by
  refine ⟨plmX2_checkTell, nle rfl, ?_⟩
  obtain ⟨a, ha, hm⟩ := h.2.2.2.2.2.2
  have hg := (e.to h).1
  have hw := (e.to h).2
  have hnm := nmO_le k
  have hnu := nuO_le k
  refine go_iload_n (q := 2) (i := 2) rfl rfl dX2_checkTell_0 ?_
  refine go_bipush (v := nI 10) (by decide) dX2_checkTell_1 ?_
  refine gn_le (by omega) (by omega) (tgt := 20) dX2_checkTell_3 (by decide) (fun h3 => ?_) (fun h3 => ?_)
  · skip
    refine go_aload_n (q := 0) (i := 0) rfl rfl dX2_checkTell_20 ?_
    refine go_aload_n (q := 1) (i := 1) rfl rfl dX2_checkTell_21 ?_
    refine go_iload_n (q := 2) (i := 2) rfl rfl dX2_checkTell_22 ?_
    refine go_callV okmX2_countTell lmX2_43 ⟨nle rfl, nle rfl⟩ hg.o ⟨by decide, rfl⟩ (ev_gcount e h hk hc) npmX2_countTell rfl (nle rfl) ⟨nle rfl, nle rfl⟩ dX2_checkTell_23 ?_
    rintro _ m3 ⟨rfl, h, hc⟩
    have h9 : gI m3 9 = gI m3 9 := rfl
    have hg := (e.to h).1
    have hw := (e.to h).2
    refine go_c0 ?_
    refine go_aload_n (q := 0) (i := 0) rfl rfl dX2_checkTell_26 ?_
    refine go_aload_n (q := 1) (i := 1) rfl rfl dX2_checkTell_27 ?_
    refine go_iload_n (q := 2) (i := 2) rfl rfl dX2_checkTell_28 ?_
    refine go_callV okmX2_take lmX2_46 ⟨nle rfl, nle rfl⟩ hg.o ⟨by decide, rfl⟩ (ev_gtake e h (by omega)) npmX2_take rfl (nle rfl) ⟨nle rfl, nle rfl⟩ dX2_checkTell_29 ?_
    rintro _ m4 ⟨rfl, h, h9b⟩
    have h9 := h9b.trans h9
    have hg := (e.to h).1
    have hw := (e.to h).2
    refine go_c0 ?_
    refine go_iload_n (q := 2) (i := 2) rfl rfl dX2_checkTell_32 ?_
    refine go_iconst (v := nI 4) (by decide) dX2_checkTell_33 ?_
    refine gn_lt (by omega) (by omega) (tgt := 51) dX2_checkTell_34 (by decide) (fun h34 => ?_) (fun h34 => ?_)
    · skip
      refine go_aload_n (q := 0) (i := 0) rfl rfl dX2_checkTell_51 ?_
      refine go_aload_n (q := 1) (i := 1) rfl rfl dX2_checkTell_52 ?_
      refine go_bipush (v := nI 23) (by decide) dX2_checkTell_53 ?_
      refine go_iload_n (q := 2) (i := 2) rfl rfl dX2_checkTell_55 ?_
      refine go_callS okmX2_namesOf lmX2_53 ⟨nle rfl, nle rfl⟩ (ev_namesOf hk) npmX2_namesOf rfl (nle rfl) ⟨nle rfl, nle rfl⟩ dX2_checkTell_56 ?_
      rintro _ mz ⟨rfl, hz⟩
      subst mz
      refine go_c1 ?_
      refine go_callV okmX2_takeMany lmX2_56 ⟨nle rfl, nle rfl⟩ hg.o ⟨by decide, rfl⟩ (ev_gmany e h (by omega) (by omega)) npmX2_takeMany rfl (nle rfl) ⟨nle rfl, nle rfl⟩ dX2_checkTell_59 ?_
      rintro _ m4 ⟨rfl, h, h9b⟩
      have h9 := h9b.trans h9
      have hg := (e.to h).1
      have hw := (e.to h).2
      refine go_c0 ?_
      refine go_aload_n (q := 0) (i := 0) rfl rfl dX2_checkTell_62 ?_
      refine go_aload_n (q := 1) (i := 1) rfl rfl dX2_checkTell_63 ?_
      refine go_bipush (v := nI 24) (by decide) dX2_checkTell_64 ?_
      refine go_iload_n (q := 2) (i := 2) rfl rfl dX2_checkTell_66 ?_
      refine go_callS okmX2_numbersOf lmX2_60 ⟨nle rfl, nle rfl⟩ (ev_numbersOf hk) npmX2_numbersOf rfl (nle rfl) ⟨nle rfl, nle rfl⟩ dX2_checkTell_67 ?_
      rintro _ mz ⟨rfl, hz⟩
      subst mz
      refine go_c1 ?_
      refine go_callV okmX2_takeMany lmX2_56 ⟨nle rfl, nle rfl⟩ hg.o ⟨by decide, rfl⟩ (ev_gmany e h (by omega) (by omega)) npmX2_takeMany rfl (nle rfl) ⟨nle rfl, nle rfl⟩ dX2_checkTell_70 ?_
      rintro _ m4 ⟨rfl, h, h9b⟩
      have h9 := h9b.trans h9
      have hg := (e.to h).1
      have hw := (e.to h).2
      refine go_c0 ?_
      refine go_aload_n (q := 0) (i := 0) rfl rfl dX2_checkTell_73 ?_
      refine go_aload_n (q := 1) (i := 1) rfl rfl dX2_checkTell_74 ?_
      refine go_bipush (v := nI 25) (by decide) dX2_checkTell_75 ?_
      refine go_callV okmX2_take lmX2_46 ⟨nle rfl, nle rfl⟩ hg.o ⟨by decide, rfl⟩ (ev_gtake e h (by omega)) npmX2_take rfl (nle rfl) ⟨nle rfl, nle rfl⟩ dX2_checkTell_77 ?_
      rintro _ m4 ⟨rfl, h, h9b⟩
      have h9 := h9b.trans h9
      have hg := (e.to h).1
      have hw := (e.to h).2
      refine go_c0 ?_
      refine go_vret rfl ⟨Nat.zero_le _, Nat.zero_le _⟩ dX2_checkTell_80 ?_
      unfold gTell
      rw [if_neg (show ¬ 10 < k by omega), if_neg (by omega)]
      exact ⟨rfl, h, fun j hj => by rw [h9]; exact hc j hj⟩
    · skip
      refine go_iload_n (q := 2) (i := 2) rfl rfl dX2_checkTell_37 ?_
      refine go_bipush (v := nI 7) (by decide) dX2_checkTell_38 ?_
      refine gn_gt (by omega) (by omega) (tgt := 51) dX2_checkTell_40 (by decide) (fun h40 => ?_) (fun h40 => ?_)
      · skip
        refine go_aload_n (q := 0) (i := 0) rfl rfl dX2_checkTell_51 ?_
        refine go_aload_n (q := 1) (i := 1) rfl rfl dX2_checkTell_52 ?_
        refine go_bipush (v := nI 23) (by decide) dX2_checkTell_53 ?_
        refine go_iload_n (q := 2) (i := 2) rfl rfl dX2_checkTell_55 ?_
        refine go_callS okmX2_namesOf lmX2_53 ⟨nle rfl, nle rfl⟩ (ev_namesOf hk) npmX2_namesOf rfl (nle rfl) ⟨nle rfl, nle rfl⟩ dX2_checkTell_56 ?_
        rintro _ mz ⟨rfl, hz⟩
        subst mz
        refine go_c1 ?_
        refine go_callV okmX2_takeMany lmX2_56 ⟨nle rfl, nle rfl⟩ hg.o ⟨by decide, rfl⟩ (ev_gmany e h (by omega) (by omega)) npmX2_takeMany rfl (nle rfl) ⟨nle rfl, nle rfl⟩ dX2_checkTell_59 ?_
        rintro _ m4 ⟨rfl, h, h9b⟩
        have h9 := h9b.trans h9
        have hg := (e.to h).1
        have hw := (e.to h).2
        refine go_c0 ?_
        refine go_aload_n (q := 0) (i := 0) rfl rfl dX2_checkTell_62 ?_
        refine go_aload_n (q := 1) (i := 1) rfl rfl dX2_checkTell_63 ?_
        refine go_bipush (v := nI 24) (by decide) dX2_checkTell_64 ?_
        refine go_iload_n (q := 2) (i := 2) rfl rfl dX2_checkTell_66 ?_
        refine go_callS okmX2_numbersOf lmX2_60 ⟨nle rfl, nle rfl⟩ (ev_numbersOf hk) npmX2_numbersOf rfl (nle rfl) ⟨nle rfl, nle rfl⟩ dX2_checkTell_67 ?_
        rintro _ mz ⟨rfl, hz⟩
        subst mz
        refine go_c1 ?_
        refine go_callV okmX2_takeMany lmX2_56 ⟨nle rfl, nle rfl⟩ hg.o ⟨by decide, rfl⟩ (ev_gmany e h (by omega) (by omega)) npmX2_takeMany rfl (nle rfl) ⟨nle rfl, nle rfl⟩ dX2_checkTell_70 ?_
        rintro _ m4 ⟨rfl, h, h9b⟩
        have h9 := h9b.trans h9
        have hg := (e.to h).1
        have hw := (e.to h).2
        refine go_c0 ?_
        refine go_aload_n (q := 0) (i := 0) rfl rfl dX2_checkTell_73 ?_
        refine go_aload_n (q := 1) (i := 1) rfl rfl dX2_checkTell_74 ?_
        refine go_bipush (v := nI 25) (by decide) dX2_checkTell_75 ?_
        refine go_callV okmX2_take lmX2_46 ⟨nle rfl, nle rfl⟩ hg.o ⟨by decide, rfl⟩ (ev_gtake e h (by omega)) npmX2_take rfl (nle rfl) ⟨nle rfl, nle rfl⟩ dX2_checkTell_77 ?_
        rintro _ m4 ⟨rfl, h, h9b⟩
        have h9 := h9b.trans h9
        have hg := (e.to h).1
        have hw := (e.to h).2
        refine go_c0 ?_
        refine go_vret rfl ⟨Nat.zero_le _, Nat.zero_le _⟩ dX2_checkTell_80 ?_
        unfold gTell
        rw [if_neg (show ¬ 10 < k by omega), if_neg (by omega)]
        exact ⟨rfl, h, fun j hj => by rw [h9]; exact hc j hj⟩
      · skip
        refine go_aload_n (q := 0) (i := 0) rfl rfl dX2_checkTell_43 ?_
        refine go_aload_n (q := 1) (i := 1) rfl rfl dX2_checkTell_44 ?_
        refine go_callV okmX2_checkLaw lmX2_49 ⟨nle rfl, nle rfl⟩ hg.o ⟨by decide, rfl⟩ (ev_glaw e h) npmX2_checkLaw rfl (nle rfl) ⟨nle rfl, nle rfl⟩ dX2_checkTell_45 ?_
        rintro _ m4 ⟨rfl, h, h9b⟩
        have h9 := h9b.trans h9
        have hg := (e.to h).1
        have hw := (e.to h).2
        refine go_c0 ?_
        refine go_goto (tgt := 73) dX2_checkTell_48 (by decide) ?_
        refine go_aload_n (q := 0) (i := 0) rfl rfl dX2_checkTell_73 ?_
        refine go_aload_n (q := 1) (i := 1) rfl rfl dX2_checkTell_74 ?_
        refine go_bipush (v := nI 25) (by decide) dX2_checkTell_75 ?_
        refine go_callV okmX2_take lmX2_46 ⟨nle rfl, nle rfl⟩ hg.o ⟨by decide, rfl⟩ (ev_gtake e h (by omega)) npmX2_take rfl (nle rfl) ⟨nle rfl, nle rfl⟩ dX2_checkTell_77 ?_
        rintro _ m4 ⟨rfl, h, h9b⟩
        have h9 := h9b.trans h9
        have hg := (e.to h).1
        have hw := (e.to h).2
        refine go_c0 ?_
        refine go_vret rfl ⟨Nat.zero_le _, Nat.zero_le _⟩ dX2_checkTell_80 ?_
        unfold gTell
        rw [if_neg (show ¬ 10 < k by omega), if_pos (by omega)]
        exact ⟨rfl, h, fun j hj => by rw [h9]; exact hc j hj⟩
  · skip
    refine go_aload_n (q := 1) (i := 1) rfl rfl dX2_checkTell_6 ?_
    refine go_iconst (v := nI 1) (by decide) dX2_checkTell_7 ?_
    refine go_aload_n (q := 1) (i := 1) rfl rfl dX2_checkTell_8 ?_
    refine go_aload_n (q := 0) (i := 0) rfl rfl dX2_checkTell_9 ?_
    refine go_getI lf2_15 rfl hg.o dX2_checkTell_10 ?_
    rw [hm]
    refine go_callV okmX10_placeAt lmX2_36 ⟨nle rfl, nle rfl⟩ hw.o ⟨by decide, rfl⟩ (ev_gp e h ha) npmX10_placeAt rfl (nle rfl) ⟨nle rfl, nle rfl⟩ dX2_checkTell_13 ?_
    rintro _ mz ⟨rfl, hz⟩
    subst mz
    refine go_c1 ?_
    refine go_callV okmX10_fail lmX2_39 ⟨nle rfl, nle rfl⟩ hw.o ⟨by decide, rfl⟩ (ev_fail hw) npmX10_fail rfl (nle rfl) ⟨nle rfl, nle rfl⟩ dX2_checkTell_16 ?_
    rintro _ m1 ⟨rfl, he⟩
    obtain ⟨f1, f2, f3⟩ := h.fl ha hm (c := 1) (by decide) he
    refine go_c0 ?_
    refine go_vret rfl ⟨Nat.zero_le _, Nat.zero_le _⟩ dX2_checkTell_19 ?_
    rw [show gTell (kG B n z) c k s = gFl 1 s from if_pos (by omega), gUp_ne (by omega)]
    exact ⟨rfl, f1, fun j hj => by rw [f2]; exact (hc j hj).1⟩
set_option maxRecDepth 100000 in
set_option maxHeartbeats 8000000 in
theorem ev_gcheck {m : Me} {B : Nat → Nat} {n z : Nat} (e : gEn m B n z) (hf0 : gI m 3 6 = nI 0) (hp0 : gI m 3 7 = -1) : Ev mX2_check [.ref 8, .ref 3] m (fun o m' => o = none ∧ GC m m' (pG B n z) (gChk (kG B n z) 401 (fun _ => 0) (0, 0))) := by
  refine ⟨plmX2_check, nle rfl, ?_⟩
  have hg := e.2.1
  have hw := e.2.2.1
  have key : ∀ i, i ≤ 401 → ∀ (m1 : Me) (c : Nat → Nat) (s1 : Nat × Nat), GC m m1 (pG B n z) s1 → (∀ j, j < 4 → gI m1 9 j = nI (c j)) → (∀ j, j < 4 → c j ≤ i) → gChk (kG B n z) (401 - i) c s1 = gChk (kG B n z) 401 (fun _ => 0) (0, 0) → Go mX2_check (fun o m' => o = none ∧ GC m m' (pG B n z) (gChk (kG B n z) 401 (fun _ => 0) (0, 0))) 15 [some (.ref 8), some (.ref 3), some (.int (nI i))] [] m1 0 0 := by
    refine loop_up 401 ?_ ?_
    · intro m1 c s1 h hc hci hS
      have hg := (e.to h).1
      have hw := (e.to h).2
      rw [show gChk (kG B n z) (401 - 401) c s1 = s1 from rfl] at hS
      refine go_iload_n (q := 2) (i := 2) rfl rfl dX2_check_15 ?_
      refine go_sipush (v := nI 400) (by decide) dX2_check_16 ?_
      refine gn_gt (by omega) (by omega) (tgt := 61) dX2_check_19 (by decide) (fun h19 => ?_) (fun h19 => by exfalso; omega)
      refine go_vret rfl ⟨Nat.zero_le _, Nat.zero_le _⟩ dX2_check_61 ?_
      rw [← hS]
      exact ⟨rfl, h⟩
    · intro i hi ih m1 c s1 h hc hci hS
      have hg := (e.to h).1
      have hw := (e.to h).2
      have hk35 : kG B n z s1.2 ≤ 35 := kG_le
      rw [show 401 - i = (401 - (i + 1)) + 1 by omega, gChk] at hS
      by_cases z0 : s1.1 = 0
      · have hf := (h.2.2.1 z0).1
        have hm := (h.2.2.1 z0).2.2
        have ha : s1.2 ≤ 400 := h.2.2.2.2.2.1
        by_cases hk : kG B n z s1.2 = 34
        · rw [if_neg (fun q => q.2 hk)] at hS
          refine go_iload_n (q := 2) (i := 2) rfl rfl dX2_check_15 ?_
          refine go_sipush (v := nI 400) (by decide) dX2_check_16 ?_
          refine gn_gt (by omega) (by omega) (tgt := 61) dX2_check_19 (by decide) (fun h19 => by exfalso; omega) (fun h19 => ?_)
          refine go_aload_n (q := 1) (i := 1) rfl rfl dX2_check_22 ?_
          refine go_getI lf2_23 rfl hw.o dX2_check_23 ?_
          rw [hf]
          refine gz_ne (by omega) (tgt := 61) dX2_check_26 (by decide) (fun h26 => by exfalso; omega) (fun h26 => ?_)
          refine go_aload_n (q := 1) (i := 1) rfl rfl dX2_check_29 ?_
          refine go_aload_n (q := 0) (i := 0) rfl rfl dX2_check_30 ?_
          refine go_getI lf2_15 rfl hg.o dX2_check_31 ?_
          rw [hm]
          refine go_callV okmX10_kindAt lmX2_28 ⟨nle rfl, nle rfl⟩ hw.o ⟨by decide, rfl⟩ (ev_gk e h ha) npmX10_kindAt rfl (nle rfl) ⟨nle rfl, nle rfl⟩ dX2_check_34 ?_
          rintro _ mz ⟨rfl, hz⟩
          subst mz
          rw [hk]
          refine go_c1 ?_
          refine go_bipush (v := nI 34) (by decide) dX2_check_37 ?_
          refine gn_eq (by omega) (by omega) (tgt := 61) dX2_check_39 (by decide) (fun h39 => ?_) (fun h39 => by exfalso; omega)
          refine go_vret rfl ⟨Nat.zero_le _, Nat.zero_le _⟩ dX2_check_61 ?_
          rw [← hS]
          exact ⟨rfl, h⟩
        · rw [if_pos ⟨z0, hk⟩] at hS
          refine go_iload_n (q := 2) (i := 2) rfl rfl dX2_check_15 ?_
          refine go_sipush (v := nI 400) (by decide) dX2_check_16 ?_
          refine gn_gt (by omega) (by omega) (tgt := 61) dX2_check_19 (by decide) (fun h19 => by exfalso; omega) (fun h19 => ?_)
          refine go_aload_n (q := 1) (i := 1) rfl rfl dX2_check_22 ?_
          refine go_getI lf2_23 rfl hw.o dX2_check_23 ?_
          rw [hf]
          refine gz_ne (by omega) (tgt := 61) dX2_check_26 (by decide) (fun h26 => by exfalso; omega) (fun h26 => ?_)
          refine go_aload_n (q := 1) (i := 1) rfl rfl dX2_check_29 ?_
          refine go_aload_n (q := 0) (i := 0) rfl rfl dX2_check_30 ?_
          refine go_getI lf2_15 rfl hg.o dX2_check_31 ?_
          rw [hm]
          refine go_callV okmX10_kindAt lmX2_28 ⟨nle rfl, nle rfl⟩ hw.o ⟨by decide, rfl⟩ (ev_gk e h ha) npmX10_kindAt rfl (nle rfl) ⟨nle rfl, nle rfl⟩ dX2_check_34 ?_
          rintro _ mz ⟨rfl, hz⟩
          subst mz
          refine go_c1 ?_
          refine go_bipush (v := nI 34) (by decide) dX2_check_37 ?_
          refine gn_eq (by omega) (by omega) (tgt := 61) dX2_check_39 (by decide) (fun h39 => by exfalso; exact hk h39) (fun h39 => ?_)
          refine go_aload_n (q := 0) (i := 0) rfl rfl dX2_check_42 ?_
          refine go_aload_n (q := 1) (i := 1) rfl rfl dX2_check_43 ?_
          refine go_aload_n (q := 1) (i := 1) rfl rfl dX2_check_44 ?_
          refine go_aload_n (q := 0) (i := 0) rfl rfl dX2_check_45 ?_
          refine go_getI lf2_15 rfl hg.o dX2_check_46 ?_
          rw [hm]
          refine go_callV okmX10_kindAt lmX2_28 ⟨nle rfl, nle rfl⟩ hw.o ⟨by decide, rfl⟩ (ev_gk e h ha) npmX10_kindAt rfl (nle rfl) ⟨nle rfl, nle rfl⟩ dX2_check_49 ?_
          rintro _ mz ⟨rfl, hz⟩
          subst mz
          refine go_c1 ?_
          refine go_callV okmX2_checkTell lmX2_32 ⟨nle rfl, nle rfl⟩ hg.o ⟨by decide, rfl⟩ (ev_gtell e h (by omega) (fun j hj => ⟨hc j hj, by have := hci j hj; omega⟩)) npmX2_checkTell rfl (nle rfl) ⟨nle rfl, nle rfl⟩ dX2_check_52 ?_
          rintro _ m3 ⟨rfl, h3, hc3⟩
          refine go_c0 ?_
          refine gn_inc (i := 2) (a := i) (q := 1) rfl dX2_check_55 (nle rfl) rfl ?_
          refine go_goto (tgt := 15) dX2_check_58 (by decide) ?_
          exact ih m3 _ _ h3 hc3 (gUp_le hci) hS
      · have hf := (h.2.2.2.1 z0).1
        have hs9 := h.2.2.2.2.1
        rw [if_neg (fun q => z0 q.1)] at hS
        refine go_iload_n (q := 2) (i := 2) rfl rfl dX2_check_15 ?_
        refine go_sipush (v := nI 400) (by decide) dX2_check_16 ?_
        refine gn_gt (by omega) (by omega) (tgt := 61) dX2_check_19 (by decide) (fun h19 => by exfalso; omega) (fun h19 => ?_)
        refine go_aload_n (q := 1) (i := 1) rfl rfl dX2_check_22 ?_
        refine go_getI lf2_23 rfl hw.o dX2_check_23 ?_
        rw [hf]
        refine gz_ne (by omega) (tgt := 61) dX2_check_26 (by decide) (fun h26 => ?_) (fun h26 => by exfalso; omega)
        refine go_vret rfl ⟨Nat.zero_le _, Nat.zero_le _⟩ dX2_check_61 ?_
        rw [← hS]
        exact ⟨rfl, h⟩
  refine go_aload_n (q := 0) (i := 0) rfl rfl dX2_check_0 ?_
  refine go_iconst (v := nI 0) (by decide) dX2_check_1 ?_
  refine go_putI lf2_15 rfl (Or.inl rfl) hg.o dX2_check_2 ?_
  refine go_aload_n (q := 0) (i := 0) rfl rfl dX2_check_5 ?_
  refine go_getR lf2_9 rfl hg.o hg.r0 dX2_check_6 ?_
  refine go_iconst (v := nI 0) (by decide) dX2_check_9 ?_
  refine go_callS okmX11_fill lmX2_19 ⟨nle rfl, nle rfl⟩ (ev_fill (n := 4) (by decide) hg.i0) npmX11_fill rfl (nle rfl) ⟨nle rfl, nle rfl⟩ dX2_check_10 ?_
  rintro _ m1 ⟨rfl, rfl⟩
  refine go_c0 ?_
  refine go_iconst (v := nI 0) (by decide) dX2_check_13 ?_
  refine go_istore_n (q := 2) (i := 2) rfl dX2_check_14 (nle rfl) (nle rfl) ?_
  refine key 0 (Nat.zero_le _) _ (fun _ => 0) (0, 0) ⟨Fx.I (Fx.I Fx.rf (Or.inr (Or.inl rfl))) (Or.inr (Or.inr rfl)), fun k _ _ => rfl, fun _ => ⟨hf0, hp0, ?_⟩, fun q => absurd rfl q, by decide, by decide, 0, by decide, ?_⟩ (fun j hj => ?_) (fun j hj => Nat.le_refl _) rfl
  · rw [gI_n (by decide), gI_s]; exact upd_same
  · rw [gI_n (by decide), gI_s]; exact upd_same
  · rw [gI_s]; unfold cp; rw [if_pos hj]
