theorem Ch.i {A : Nat → Prop} {m m' : Me} {a : Nat} {r : Nat → Int32} (c : Ch A m m') (h : A a) : Ch A m (sI m' a r) := c.tr (Ch.I h)
theorem pz {p : Prop} : pit p (nI 1) (nI 0) = 0 ↔ ¬ p := by
  constructor
  · intro h q
    rw [pit_t q] at h
    exact absurd h (by decide)
  · intro h
    rw [pit_f h]; exact nI_0
theorem pnz {p : Prop} (h : ¬ pit p (nI 1) (nI 0) = 0) : p := Classical.byContradiction (fun q => h (pz.mpr q))
set_option maxRecDepth 100000 in
set_option maxHeartbeats 8000000 in
theorem ev_cuts {m : Me} {q w : Nat → Prop} {f g : Nat} (hg : Wf3 m.1 (gR m) 224) (hO : BS (gJ m 224 1) q) (hS : BS (gJ m 224 2) (fun c => c = f)) (hG : BS (gJ m 224 3) (fun c => c = g)) (hq : ∀ c, q c → c < 40) (hf4 : f < 40) (hg4 : g < 40) (hfg : ¬ g = f) {x : Int64} (hW : BS x w) : Ev mX3_cuts [.ref 224, .long x] m (fun o m' => o = some (.int (pit (Gd q f g w) (nI 1) (nI 0))) ∧ m' = m) := by
  refine ⟨plmX3_cuts, nle rfl, ?_⟩
  have key : ∀ i, i ≤ 40 → ∀ fr rc : Int64, BS fr (fun c => q c ∧ ¬ w c) → BS rc (wR (fun c => q c ∧ ¬ w c) f i) → i ≤ cnt (wR (fun c => q c ∧ ¬ w c) f i) 40 → ¬ wR (fun c => q c ∧ ¬ w c) f i g → ∀ x8 : Option Value, Go mX3_cuts (fun o m' => o = some (.int (pit (Gd q f g w) (nI 1) (nI 0))) ∧ m' = m) 22 [some (.ref 224), some (.long x), none, some (.long fr), none, some (.long rc), none, some (.int (nI i)), x8, none] [] m 0 0 := by
    refine loop_up 40 ?_ ?_
    · intro fr rc hfr hb hk hn x8
      refine go_iload (i := 7) rfl dX3_cuts_22 ?_
      refine go_bipush (v := nI 40) (by decide) dX3_cuts_24 ?_
      refine gn_ge (by omega) (by omega) (tgt := 72) dX3_cuts_26 (by decide) (fun h26 => ?_) (fun h26 => by exfalso; omega)
      refine go_iconst (v := nI 1) (by decide) dX3_cuts_72 ?_
      refine go_zret rfl (by decide) ⟨Nat.zero_le _, Nat.zero_le _⟩ dX3_cuts_73 ?_
      exact absurd (cnt_full 40 hk g hg4) hn
    · intro i hi ih fr rc hfr hb hk hn x8
      refine go_iload (i := 7) rfl dX3_cuts_22 ?_
      refine go_bipush (v := nI 40) (by decide) dX3_cuts_24 ?_
      refine gn_ge (by omega) (by omega) (tgt := 72) dX3_cuts_26 (by decide) (fun h26 => by exfalso; omega) (fun h26 => ?_)
      refine go_lload (i := 5) rfl dX3_cuts_29 ?_
      refine go_callS okmX11_withNeighbours lmX3_45 ⟨nle rfl, nle rfl⟩ (ev_wn) npmX11_withNeighbours rfl (nle rfl) ⟨nle rfl, nle rfl⟩ dX3_cuts_31 ?_
      rintro _ mz ⟨rfl, hz⟩
      subst mz
      refine go_c1 ?_
      refine go_lload_n (q := 3) (i := 3) rfl rfl dX3_cuts_34 ?_
      refine go_land dX3_cuts_35 ?_
      have hb2 : BS (wnS rc &&& fr) (wR (fun c => q c ∧ ¬ w c) f (i + 1)) := hb.wn hfr (fun c z => hq c (wR_S _ _ z).1) (fun c z => hq c z.1)
      refine go_lstore (i := 8) dX3_cuts_36 (nle rfl) (nle rfl) ?_
      refine go_lload (i := 8) rfl dX3_cuts_38 ?_
      refine go_aload_n (q := 0) (i := 0) rfl rfl dX3_cuts_40 ?_
      refine go_getJ lf3_22 rfl hg.o dX3_cuts_41 ?_
      refine go_land dX3_cuts_44 ?_
      refine go_lconst (v := 0) (by decide) dX3_cuts_45 ?_
      refine go_lcmp dX3_cuts_46 ?_
      refine go_if_eq (tgt := 52) dX3_cuts_47 (by decide) (fun h47 => ?_) (fun h47 => ?_)
      · skip
        refine go_lload (i := 8) rfl dX3_cuts_52 ?_
        refine go_lload (i := 5) rfl dX3_cuts_54 ?_
        refine go_lcmp dX3_cuts_56 ?_
        refine go_if_ne (tgt := 62) dX3_cuts_57 (by decide) (fun h57 => ?_) (fun h57 => ?_)
        · skip
          refine go_lload (i := 8) rfl dX3_cuts_62 ?_
          refine go_lstore (i := 5) dX3_cuts_64 (nle rfl) (nle rfl) ?_
          refine gn_inc (i := 7) (a := i) (q := 1) rfl dX3_cuts_66 (nle rfl) rfl ?_
          refine go_goto (tgt := 22) dX3_cuts_69 (by decide) ?_
          exact ih _ _ hfr hb2 (wR_grow (fun c z => hq c z.1) (fun y => h57 (cmp_0.mpr (hb2.eq (hb.c (fun c => (y c).symm))))) hk) (fun z => (hb2.and hG).n0.mp (cmp_0.mp h47) g ⟨z, rfl⟩) _
        · skip
          refine go_iconst (v := nI 1) (by decide) dX3_cuts_60 ?_
          refine go_zret rfl (by decide) ⟨Nat.zero_le _, Nat.zero_le _⟩ dX3_cuts_61 ?_
          refine ⟨?_, rfl⟩
          have he := cmp_0.mp h57
          rw [he] at hb2
          rw [pit_t (show Gd q f g w from wR_cut (n := i) (fun c => (hb2 c).symm.trans (hb c)) hn)]
      · skip
        refine go_iconst (v := nI 0) (by decide) dX3_cuts_50 ?_
        refine go_zret rfl (by decide) ⟨Nat.zero_le _, Nat.zero_le _⟩ dX3_cuts_51 ?_
        refine ⟨?_, rfl⟩
        rw [pit_f (fun z => h47 (cmp_0.mpr ((hb2.and hG).n0.mpr (fun c y => z (i + 1) (by rw [← y.2]; exact y.1)))))]
  refine go_aload_n (q := 0) (i := 0) rfl rfl dX3_cuts_0 ?_
  refine go_getJ lf3_15 rfl hg.o dX3_cuts_1 ?_
  refine go_lload_n (q := 1) (i := 1) rfl rfl dX3_cuts_4 ?_
  refine go_ldc2 (wg5 56 rfl rfl) dX3_cuts_5 ?_
  refine go_lxor dX3_cuts_8 ?_
  refine go_land dX3_cuts_9 ?_
  refine go_lstore_n (q := 3) (i := 3) rfl dX3_cuts_10 (nle rfl) (nle rfl) ?_
  refine go_aload_n (q := 0) (i := 0) rfl rfl dX3_cuts_11 ?_
  refine go_getJ lf3_19 rfl hg.o dX3_cuts_12 ?_
  refine go_lload_n (q := 3) (i := 3) rfl rfl dX3_cuts_15 ?_
  refine go_land dX3_cuts_16 ?_
  refine go_lstore (i := 5) dX3_cuts_17 (nle rfl) (nle rfl) ?_
  refine go_iconst (v := nI 0) (by decide) dX3_cuts_19 ?_
  refine go_istore (i := 7) dX3_cuts_20 (nle rfl) (nle rfl) ?_
  refine key 0 (Nat.zero_le _) _ _ (hO.andn hW (fun c z => by have := hq c z; omega)) ?_ (Nat.zero_le _) (fun z => hfg z.1) _
  exact (hS.and (hO.andn hW (fun c z => by have := hq c z; omega))).c (fun c => ⟨fun z => ⟨z.1, by rw [← z.1]; exact z.2⟩, fun z => ⟨z.1, by rw [z.1]; exact z.2⟩⟩)
set_option maxRecDepth 100000 in
set_option maxHeartbeats 4000000 in
theorem ev_canW {m : Me} {q : Nat → Prop} {f g : Nat} (hg : Wf3 m.1 (gR m) 224) (hO : BS (gJ m 224 1) q) (hS : BS (gJ m 224 2) (fun c => c = f)) (hG : BS (gJ m 224 3) (fun c => c = g)) (hq : ∀ c, q c → c < 40) (hf4 : f < 40) (hg4 : g < 40) (hfg : ¬ g = f) {c : Nat} (hc : c < 40) : Ev mX3_canBeWatched [.ref 224, .int (nI c)] m (fun o m' => o = some (.int (pit (may q f g c) (nI 1) (nI 0))) ∧ m' = m) := by
  refine ⟨plmX3_canBeWatched, nle rfl, ?_⟩
  refine go_aload_n (q := 0) (i := 0) rfl rfl dX3_canBeWatched_0 ?_
  refine go_getJ lf3_15 rfl hg.o dX3_canBeWatched_1 ?_
  refine go_aload_n (q := 0) (i := 0) rfl rfl dX3_canBeWatched_4 ?_
  refine go_getJ lf3_19 rfl hg.o dX3_canBeWatched_5 ?_
  refine go_ldc2 (wg5 56 rfl rfl) dX3_canBeWatched_8 ?_
  refine go_lxor dX3_canBeWatched_11 ?_
  refine go_land dX3_canBeWatched_12 ?_
  refine go_aload_n (q := 0) (i := 0) rfl rfl dX3_canBeWatched_13 ?_
  refine go_getJ lf3_22 rfl hg.o dX3_canBeWatched_14 ?_
  refine go_ldc2 (wg5 56 rfl rfl) dX3_canBeWatched_17 ?_
  refine go_lxor dX3_canBeWatched_20 ?_
  refine go_land dX3_canBeWatched_21 ?_
  refine go_iload_n (q := 1) (i := 1) rfl rfl dX3_canBeWatched_22 ?_
  refine go_lushr dX3_canBeWatched_23 ?_
  refine go_lconst (v := 1) (by decide) dX3_canBeWatched_24 ?_
  refine go_land dX3_canBeWatched_25 ?_
  refine go_lconst (v := 0) (by decide) dX3_canBeWatched_26 ?_
  refine go_lcmp dX3_canBeWatched_27 ?_
  refine go_if_eq (tgt := 35) dX3_canBeWatched_28 (by decide) (fun h28 => ?_) (fun h28 => ?_)
  · skip
    refine go_iconst (v := nI 0) (by decide) dX3_canBeWatched_35 ?_
    refine go_zret rfl (by decide) ⟨Nat.zero_le _, Nat.zero_le _⟩ dX3_canBeWatched_36 ?_
    refine ⟨?_, rfl⟩
    have hM : BS ((gJ m 224 1 &&& (gJ m 224 2 ^^^ (-1))) &&& (gJ m 224 3 ^^^ (-1))) (may q f g) := (hO.andn hS (fun c z => by have := hq c z; omega)).andn hG (fun c z => by have := hq c z.1; omega)
    rw [pit_f (hM.at.mp ((bt_look (by omega)).mp h28))]
  · skip
    refine go_iconst (v := nI 1) (by decide) dX3_canBeWatched_31 ?_
    refine go_goto (tgt := 36) dX3_canBeWatched_32 (by decide) ?_
    refine go_zret rfl (by decide) ⟨Nat.zero_le _, Nat.zero_le _⟩ dX3_canBeWatched_36 ?_
    refine ⟨?_, rfl⟩
    have hM : BS ((gJ m 224 1 &&& (gJ m 224 2 ^^^ (-1))) &&& (gJ m 224 3 ^^^ (-1))) (may q f g) := (hO.andn hS (fun c z => by have := hq c z; omega)).andn hG (fun c z => by have := hq c z.1; omega)
    rw [pit_t ((hM c).mp (Classical.byContradiction (fun z => h28 ((bt_look (by omega)).mpr (Bool.eq_false_iff.mpr z)))))]
set_option maxRecDepth 100000 in
set_option maxHeartbeats 8000000 in
theorem ev_post1 {m : Me} {q : Nat → Prop} {f g : Nat} (hg : Wf3 m.1 (gR m) 224) (hO : BS (gJ m 224 1) q) (hS : BS (gJ m 224 2) (fun c => c = f)) (hG : BS (gJ m 224 3) (fun c => c = g)) (hq : ∀ c, q c → c < 40) (hf4 : f < 40) (hg4 : g < 40) (hfg : ¬ g = f) : Ev mX3_postOne [.ref 224] m (fun o m' => Ch (fun x => x = 225) m m' ∧ ((o = some (.int (nI 1)) ∧ ∃ a, F1 q f g a ∧ gI m' 225 0 = nI a) ∨ (o = some (.int (nI 0)) ∧ N1 q f g))) := by
  refine ⟨plmX3_postOne, nle rfl, ?_⟩
  have key : ∀ i, i ≤ 40 → (∀ a, a < i → may q f g a → ¬ Gd q f g (w1 a)) → Go mX3_postOne (fun o m' => Ch (fun x => x = 225) m m' ∧ ((o = some (.int (nI 1)) ∧ ∃ a, F1 q f g a ∧ gI m' 225 0 = nI a) ∨ (o = some (.int (nI 0)) ∧ N1 q f g))) 2 [some (.ref 224), some (.int (nI i))] [] m 0 0 := by
    refine loop_up 40 ?_ ?_
    · intro hn
      refine go_iload_n (q := 1) (i := 1) rfl rfl dX3_postOne_2 ?_
      refine go_bipush (v := nI 40) (by decide) dX3_postOne_3 ?_
      refine gn_ge (by omega) (by omega) (tgt := 41) dX3_postOne_5 (by decide) (fun h5 => ?_) (fun h5 => by exfalso; omega)
      refine go_iconst (v := nI 0) (by decide) dX3_postOne_41 ?_
      refine go_zret rfl (by decide) ⟨Nat.zero_le _, Nat.zero_le _⟩ dX3_postOne_42 ?_
      exact ⟨Ch.rf, Or.inr ⟨rfl, fun a h => hn a (hq a h.1.1) h⟩⟩
    · intro i hi ih hn
      refine go_iload_n (q := 1) (i := 1) rfl rfl dX3_postOne_2 ?_
      refine go_bipush (v := nI 40) (by decide) dX3_postOne_3 ?_
      refine gn_ge (by omega) (by omega) (tgt := 41) dX3_postOne_5 (by decide) (fun h5 => by exfalso; omega) (fun h5 => ?_)
      refine go_aload_n (q := 0) (i := 0) rfl rfl dX3_postOne_8 ?_
      refine go_iload_n (q := 1) (i := 1) rfl rfl dX3_postOne_9 ?_
      refine go_callV okmX3_canBeWatched lmX3_39 ⟨nle rfl, nle rfl⟩ hg.o ⟨by decide, rfl⟩ (ev_canW hg hO hS hG hq hf4 hg4 hfg (c := i) (by omega)) npmX3_canBeWatched rfl (nle rfl) ⟨nle rfl, nle rfl⟩ dX3_postOne_10 ?_
      rintro _ mz ⟨rfl, hz⟩
      subst mz
      refine go_c1 ?_
      refine go_if_eq (tgt := 35) dX3_postOne_13 (by decide) (fun h13 => ?_) (fun h13 => ?_)
      · skip
        refine gn_inc (i := 1) (a := i) (q := 1) rfl dX3_postOne_35 (nle rfl) rfl ?_
        refine go_goto (tgt := 2) dX3_postOne_38 (by decide) ?_
        refine ih (fun a h z => ?_)
        by_cases e : a = i
        · rw [e] at z ⊢
          exact absurd z (pz.mp h13)
        · exact hn a (by omega) z
      · skip
        refine go_aload_n (q := 0) (i := 0) rfl rfl dX3_postOne_16 ?_
        refine go_lconst (v := 1) (by decide) dX3_postOne_17 ?_
        refine go_iload_n (q := 1) (i := 1) rfl rfl dX3_postOne_18 ?_
        refine go_lshl dX3_postOne_19 ?_
        refine go_callV okmX3_cuts lmX3_25 ⟨nle rfl, nle rfl⟩ hg.o ⟨by decide, rfl⟩ (ev_cuts hg hO hS hG hq hf4 hg4 hfg ((BS.one (k := i) (by omega)).c (fun c => Iff.rfl) : BS _ (w1 i))) npmX3_cuts rfl (nle rfl) ⟨nle rfl, nle rfl⟩ dX3_postOne_20 ?_
        rintro _ mz ⟨rfl, hz⟩
        subst mz
        refine go_c1 ?_
        refine go_if_eq (tgt := 35) dX3_postOne_23 (by decide) (fun h23 => ?_) (fun h23 => ?_)
        · skip
          refine gn_inc (i := 1) (a := i) (q := 1) rfl dX3_postOne_35 (nle rfl) rfl ?_
          refine go_goto (tgt := 2) dX3_postOne_38 (by decide) ?_
          refine ih (fun a h z => ?_)
          by_cases e : a = i
          · rw [e] at z ⊢
            exact pz.mp h23
          · exact hn a (by omega) z
        · skip
          refine go_aload_n (q := 0) (i := 0) rfl rfl dX3_postOne_26 ?_
          refine go_getR lf3_9 rfl hg.o hg.r0 dX3_postOne_27 ?_
          refine go_iconst (v := nI 0) (by decide) dX3_postOne_30 ?_
          refine go_iload_n (q := 1) (i := 1) rfl rfl dX3_postOne_31 ?_
          refine go_iast (j := 0) hg.i0 (by omega) (by first | decide | omega) rfl dX3_postOne_32 ?_
          refine go_iconst (v := nI 1) (by decide) dX3_postOne_33 ?_
          refine go_zret rfl (by decide) ⟨Nat.zero_le _, Nat.zero_le _⟩ dX3_postOne_34 ?_
          refine ⟨Ch.I rfl, Or.inl ⟨rfl, i, ⟨⟨pnz h13, pnz h23⟩, hn⟩, ?_⟩⟩
          rw [gI_s, upd_eq]
  refine go_iconst (v := nI 0) (by decide) dX3_postOne_0 ?_
  refine go_istore_n (q := 1) (i := 1) rfl dX3_postOne_1 (nle rfl) (nle rfl) ?_
  exact key 0 (Nat.zero_le _) (fun a h => absurd h (Nat.not_lt_zero a))
set_option maxRecDepth 100000 in
set_option maxHeartbeats 8000000 in
theorem ev_post2 {m : Me} {q : Nat → Prop} {f g : Nat} (hg : Wf3 m.1 (gR m) 224) (hO : BS (gJ m 224 1) q) (hS : BS (gJ m 224 2) (fun c => c = f)) (hG : BS (gJ m 224 3) (fun c => c = g)) (hq : ∀ c, q c → c < 40) (hf4 : f < 40) (hg4 : g < 40) (hfg : ¬ g = f) : Ev mX3_postTwo [.ref 224] m (fun o m' => Ch (fun x => x = 225) m m' ∧ ((o = some (.int (nI 1)) ∧ ∃ a b, F2 q f g a b ∧ gI m' 225 0 = nI a ∧ gI m' 225 1 = nI b) ∨ (o = some (.int (nI 0)) ∧ N2 q f g))) := by
  refine ⟨plmX3_postTwo, nle rfl, ?_⟩
  have key : ∀ i, i ≤ 40 → (∀ a b, a < i → ¬ T2 q f g a b) → ∀ x2 : Option Value, Go mX3_postTwo (fun o m' => Ch (fun x => x = 225) m m' ∧ ((o = some (.int (nI 1)) ∧ ∃ a b, F2 q f g a b ∧ gI m' 225 0 = nI a ∧ gI m' 225 1 = nI b) ∨ (o = some (.int (nI 0)) ∧ N2 q f g))) 2 [some (.ref 224), some (.int (nI i)), x2] [] m 0 0 := by
    refine loop_up 40 ?_ ?_
    · intro hn x2
      refine go_iload_n (q := 1) (i := 1) rfl rfl dX3_postTwo_2 ?_
      refine go_bipush (v := nI 40) (by decide) dX3_postTwo_3 ?_
      refine gn_ge (by omega) (by omega) (tgt := 76) dX3_postTwo_5 (by decide) (fun h5 => ?_) (fun h5 => by exfalso; omega)
      refine go_iconst (v := nI 0) (by decide) dX3_postTwo_76 ?_
      refine go_zret rfl (by decide) ⟨Nat.zero_le _, Nat.zero_le _⟩ dX3_postTwo_77 ?_
      exact ⟨Ch.rf, Or.inr ⟨rfl, fun a b h => hn a b (hq a h.2.1.1.1) h⟩⟩
    · intro i hi ih hn x2
      refine go_iload_n (q := 1) (i := 1) rfl rfl dX3_postTwo_2 ?_
      refine go_bipush (v := nI 40) (by decide) dX3_postTwo_3 ?_
      refine gn_ge (by omega) (by omega) (tgt := 76) dX3_postTwo_5 (by decide) (fun h5 => by exfalso; omega) (fun h5 => ?_)
      refine go_iload_n (q := 1) (i := 1) rfl rfl dX3_postTwo_8 ?_
      refine go_iconst (v := nI 1) (by decide) dX3_postTwo_9 ?_
      refine gn_add dX3_postTwo_10 ?_
      refine go_istore_n (q := 2) (i := 2) rfl dX3_postTwo_11 (nle rfl) (nle rfl) ?_
      have keyb : ∀ j, j ≤ 40 → i < j → (∀ b, b < j → ¬ T2 q f g i b) → Go mX3_postTwo (fun o m' => Ch (fun x => x = 225) m m' ∧ ((o = some (.int (nI 1)) ∧ ∃ a b, F2 q f g a b ∧ gI m' 225 0 = nI a ∧ gI m' 225 1 = nI b) ∨ (o = some (.int (nI 0)) ∧ N2 q f g))) 12 [some (.ref 224), some (.int (nI i)), some (.int (nI j))] [] m 0 0 := by
        refine loop_up 40 ?_ ?_
        · intro hij hnb
          refine go_aload_n (q := 0) (i := 0) rfl rfl dX3_postTwo_12 ?_
          refine go_iload_n (q := 1) (i := 1) rfl rfl dX3_postTwo_13 ?_
          refine go_callV okmX3_canBeWatched lmX3_39 ⟨nle rfl, nle rfl⟩ hg.o ⟨by decide, rfl⟩ (ev_canW hg hO hS hG hq hf4 hg4 hfg (c := i) (by omega)) npmX3_canBeWatched rfl (nle rfl) ⟨nle rfl, nle rfl⟩ dX3_postTwo_14 ?_
          rintro _ mz ⟨rfl, hz⟩
          subst mz
          refine go_c1 ?_
          refine go_if_eq (tgt := 70) dX3_postTwo_17 (by decide) (fun h17 => ?_) (fun h17 => ?_)
          · skip
            refine gn_inc (i := 1) (a := i) (q := 1) rfl dX3_postTwo_70 (nle rfl) rfl ?_
            refine go_goto (tgt := 2) dX3_postTwo_73 (by decide) ?_
            refine ih (fun a b h z => ?_) _
            by_cases e : a = i
            · rw [e] at z
              exact absurd z.2.1 (pz.mp h17)
            · exact hn a b (by omega) z
          · skip
            refine go_iload_n (q := 2) (i := 2) rfl rfl dX3_postTwo_20 ?_
            refine go_bipush (v := nI 40) (by decide) dX3_postTwo_21 ?_
            refine gn_ge (by omega) (by omega) (tgt := 70) dX3_postTwo_23 (by decide) (fun h23 => ?_) (fun h23 => by exfalso; omega)
            refine gn_inc (i := 1) (a := i) (q := 1) rfl dX3_postTwo_70 (nle rfl) rfl ?_
            refine go_goto (tgt := 2) dX3_postTwo_73 (by decide) ?_
            refine ih (fun a b h z => ?_) _
            by_cases e : a = i
            · rw [e] at z
              exact hnb b (hq b z.2.2.1.1.1) z
            · exact hn a b (by omega) z
        · intro j hj ihj hij hnb
          refine go_aload_n (q := 0) (i := 0) rfl rfl dX3_postTwo_12 ?_
          refine go_iload_n (q := 1) (i := 1) rfl rfl dX3_postTwo_13 ?_
          refine go_callV okmX3_canBeWatched lmX3_39 ⟨nle rfl, nle rfl⟩ hg.o ⟨by decide, rfl⟩ (ev_canW hg hO hS hG hq hf4 hg4 hfg (c := i) (by omega)) npmX3_canBeWatched rfl (nle rfl) ⟨nle rfl, nle rfl⟩ dX3_postTwo_14 ?_
          rintro _ mz ⟨rfl, hz⟩
          subst mz
          refine go_c1 ?_
          refine go_if_eq (tgt := 70) dX3_postTwo_17 (by decide) (fun h17 => ?_) (fun h17 => ?_)
          · skip
            refine gn_inc (i := 1) (a := i) (q := 1) rfl dX3_postTwo_70 (nle rfl) rfl ?_
            refine go_goto (tgt := 2) dX3_postTwo_73 (by decide) ?_
            refine ih (fun a b h z => ?_) _
            by_cases e : a = i
            · rw [e] at z
              exact absurd z.2.1 (pz.mp h17)
            · exact hn a b (by omega) z
          · skip
            refine go_iload_n (q := 2) (i := 2) rfl rfl dX3_postTwo_20 ?_
            refine go_bipush (v := nI 40) (by decide) dX3_postTwo_21 ?_
            refine gn_ge (by omega) (by omega) (tgt := 70) dX3_postTwo_23 (by decide) (fun h23 => by exfalso; omega) (fun h23 => ?_)
            refine go_aload_n (q := 0) (i := 0) rfl rfl dX3_postTwo_26 ?_
            refine go_iload_n (q := 2) (i := 2) rfl rfl dX3_postTwo_27 ?_
            refine go_callV okmX3_canBeWatched lmX3_39 ⟨nle rfl, nle rfl⟩ hg.o ⟨by decide, rfl⟩ (ev_canW hg hO hS hG hq hf4 hg4 hfg (c := j) (by omega)) npmX3_canBeWatched rfl (nle rfl) ⟨nle rfl, nle rfl⟩ dX3_postTwo_28 ?_
            rintro _ mz ⟨rfl, hz⟩
            subst mz
            refine go_c1 ?_
            refine go_if_eq (tgt := 64) dX3_postTwo_31 (by decide) (fun h31 => ?_) (fun h31 => ?_)
            · skip
              refine gn_inc (i := 2) (a := j) (q := 1) rfl dX3_postTwo_64 (nle rfl) rfl ?_
              refine go_goto (tgt := 12) dX3_postTwo_67 (by decide) ?_
              refine ihj (by omega) (fun b h z => ?_)
              by_cases e : b = j
              · rw [e] at z
                exact absurd z.2.2.1 (pz.mp h31)
              · exact hnb b (by omega) z
            · skip
              refine go_aload_n (q := 0) (i := 0) rfl rfl dX3_postTwo_34 ?_
              refine go_lconst (v := 1) (by decide) dX3_postTwo_35 ?_
              refine go_iload_n (q := 1) (i := 1) rfl rfl dX3_postTwo_36 ?_
              refine go_lshl dX3_postTwo_37 ?_
              refine go_lconst (v := 1) (by decide) dX3_postTwo_38 ?_
              refine go_iload_n (q := 2) (i := 2) rfl rfl dX3_postTwo_39 ?_
              refine go_lshl dX3_postTwo_40 ?_
              refine go_lor dX3_postTwo_41 ?_
              refine go_callV okmX3_cuts lmX3_25 ⟨nle rfl, nle rfl⟩ hg.o ⟨by decide, rfl⟩ (ev_cuts hg hO hS hG hq hf4 hg4 hfg (((BS.one (k := i) (by omega)).or (BS.one (k := j) (by omega))).c (fun c => Iff.rfl) : BS _ (w2 i j))) npmX3_cuts rfl (nle rfl) ⟨nle rfl, nle rfl⟩ dX3_postTwo_42 ?_
              rintro _ mz ⟨rfl, hz⟩
              subst mz
              refine go_c1 ?_
              refine go_if_eq (tgt := 64) dX3_postTwo_45 (by decide) (fun h45 => ?_) (fun h45 => ?_)
              · skip
                refine gn_inc (i := 2) (a := j) (q := 1) rfl dX3_postTwo_64 (nle rfl) rfl ?_
                refine go_goto (tgt := 12) dX3_postTwo_67 (by decide) ?_
                refine ihj (by omega) (fun b h z => ?_)
                by_cases e : b = j
                · rw [e] at z
                  exact absurd z.2.2.2 (pz.mp h45)
                · exact hnb b (by omega) z
              · skip
                refine go_aload_n (q := 0) (i := 0) rfl rfl dX3_postTwo_48 ?_
                refine go_getR lf3_9 rfl hg.o hg.r0 dX3_postTwo_49 ?_
                refine go_iconst (v := nI 0) (by decide) dX3_postTwo_52 ?_
                refine go_iload_n (q := 1) (i := 1) rfl rfl dX3_postTwo_53 ?_
                refine go_iast (j := 0) hg.i0 (by omega) (by first | decide | omega) rfl dX3_postTwo_54 ?_
                refine go_aload_n (q := 0) (i := 0) rfl rfl dX3_postTwo_55 ?_
                refine go_getR lf3_9 rfl hg.o hg.r0 dX3_postTwo_56 ?_
                refine go_iconst (v := nI 1) (by decide) dX3_postTwo_59 ?_
                refine go_iload_n (q := 2) (i := 2) rfl rfl dX3_postTwo_60 ?_
                refine go_iast (j := 1) hg.i0 (by omega) (by first | decide | omega) rfl dX3_postTwo_61 ?_
                refine go_iconst (v := nI 1) (by decide) dX3_postTwo_62 ?_
                refine go_zret rfl (by decide) ⟨Nat.zero_le _, Nat.zero_le _⟩ dX3_postTwo_63 ?_
                refine ⟨Ch.i (Ch.i Ch.rf rfl) rfl, Or.inl ⟨rfl, i, j, ⟨⟨hij, pnz h17, pnz h31, pnz h45⟩, fun a b h z => ?_⟩, ?_, ?_⟩⟩
                · rcases h with h | ⟨h1, h2⟩
                  · exact hn a b h z
                  · rw [h1] at z; exact hnb b h2 z
                · rw [gI_s, upd_ne (by decide), gI_s, upd_eq]
                · rw [gI_s, upd_eq]
      exact keyb (i + 1) (by omega) (by omega) (fun b h z => absurd z.1 (by omega))
  refine go_iconst (v := nI 0) (by decide) dX3_postTwo_0 ?_
  refine go_istore_n (q := 1) (i := 1) rfl dX3_postTwo_1 (nle rfl) (nle rfl) ?_
  exact key 0 (Nat.zero_le _) (fun a b h => absurd h (Nat.not_lt_zero a)) _
set_option maxRecDepth 100000 in
set_option maxHeartbeats 8000000 in
theorem ev_post3 {m : Me} {q : Nat → Prop} {f g : Nat} (hg : Wf3 m.1 (gR m) 224) (hO : BS (gJ m 224 1) q) (hS : BS (gJ m 224 2) (fun c => c = f)) (hG : BS (gJ m 224 3) (fun c => c = g)) (hq : ∀ c, q c → c < 40) (hf4 : f < 40) (hg4 : g < 40) (hfg : ¬ g = f) : Ev mX3_postThree [.ref 224] m (fun o m' => Ch (fun x => x = 225) m m' ∧ ((o = some (.int (nI 1)) ∧ ∃ a b d, F3 q f g a b d ∧ gI m' 225 0 = nI a ∧ gI m' 225 1 = nI b ∧ gI m' 225 2 = nI d) ∨ (o = some (.int (nI 0)) ∧ N3 q f g))) := by
  refine ⟨plmX3_postThree, nle rfl, ?_⟩
  have key : ∀ i, i ≤ 40 → (∀ a b d, a < i → ¬ T3 q f g a b d) → ∀ x2 x3 : Option Value, Go mX3_postThree (fun o m' => Ch (fun x => x = 225) m m' ∧ ((o = some (.int (nI 1)) ∧ ∃ a b d, F3 q f g a b d ∧ gI m' 225 0 = nI a ∧ gI m' 225 1 = nI b ∧ gI m' 225 2 = nI d) ∨ (o = some (.int (nI 0)) ∧ N3 q f g))) 2 [some (.ref 224), some (.int (nI i)), x2, x3] [] m 0 0 := by
    refine loop_up 40 ?_ ?_
    · intro hn x2 x3
      refine go_iload_n (q := 1) (i := 1) rfl rfl dX3_postThree_2 ?_
      refine go_bipush (v := nI 40) (by decide) dX3_postThree_3 ?_
      refine gn_ge (by omega) (by omega) (tgt := 111) dX3_postThree_5 (by decide) (fun h5 => ?_) (fun h5 => by exfalso; omega)
      refine go_iconst (v := nI 0) (by decide) dX3_postThree_111 ?_
      refine go_zret rfl (by decide) ⟨Nat.zero_le _, Nat.zero_le _⟩ dX3_postThree_112 ?_
      exact ⟨Ch.rf, Or.inr ⟨rfl, fun a b d h => hn a b d (hq a h.2.2.1.1.1) h⟩⟩
    · intro i hi ih hn x2 x3
      refine go_iload_n (q := 1) (i := 1) rfl rfl dX3_postThree_2 ?_
      refine go_bipush (v := nI 40) (by decide) dX3_postThree_3 ?_
      refine gn_ge (by omega) (by omega) (tgt := 111) dX3_postThree_5 (by decide) (fun h5 => by exfalso; omega) (fun h5 => ?_)
      refine go_iload_n (q := 1) (i := 1) rfl rfl dX3_postThree_8 ?_
      refine go_iconst (v := nI 1) (by decide) dX3_postThree_9 ?_
      refine gn_add dX3_postThree_10 ?_
      refine go_istore_n (q := 2) (i := 2) rfl dX3_postThree_11 (nle rfl) (nle rfl) ?_
      have keyb : ∀ j, j ≤ 40 → i < j → (∀ b d, b < j → ¬ T3 q f g i b d) → ∀ x3 : Option Value, Go mX3_postThree (fun o m' => Ch (fun x => x = 225) m m' ∧ ((o = some (.int (nI 1)) ∧ ∃ a b d, F3 q f g a b d ∧ gI m' 225 0 = nI a ∧ gI m' 225 1 = nI b ∧ gI m' 225 2 = nI d) ∨ (o = some (.int (nI 0)) ∧ N3 q f g))) 12 [some (.ref 224), some (.int (nI i)), some (.int (nI j)), x3] [] m 0 0 := by
        refine loop_up 40 ?_ ?_
        · intro hij hnb x3
          refine go_aload_n (q := 0) (i := 0) rfl rfl dX3_postThree_12 ?_
          refine go_iload_n (q := 1) (i := 1) rfl rfl dX3_postThree_13 ?_
          refine go_callV okmX3_canBeWatched lmX3_39 ⟨nle rfl, nle rfl⟩ hg.o ⟨by decide, rfl⟩ (ev_canW hg hO hS hG hq hf4 hg4 hfg (c := i) (by omega)) npmX3_canBeWatched rfl (nle rfl) ⟨nle rfl, nle rfl⟩ dX3_postThree_14 ?_
          rintro _ mz ⟨rfl, hz⟩
          subst mz
          refine go_c1 ?_
          refine go_if_eq (tgt := 105) dX3_postThree_17 (by decide) (fun h17 => ?_) (fun h17 => ?_)
          · skip
            refine gn_inc (i := 1) (a := i) (q := 1) rfl dX3_postThree_105 (nle rfl) rfl ?_
            refine go_goto (tgt := 2) dX3_postThree_108 (by decide) ?_
            refine ih (fun a b d h z => ?_) _ _
            by_cases e : a = i
            · rw [e] at z
              exact absurd z.2.2.1 (pz.mp h17)
            · exact hn a b d (by omega) z
          · skip
            refine go_iload_n (q := 2) (i := 2) rfl rfl dX3_postThree_20 ?_
            refine go_bipush (v := nI 40) (by decide) dX3_postThree_21 ?_
            refine gn_ge (by omega) (by omega) (tgt := 105) dX3_postThree_23 (by decide) (fun h23 => ?_) (fun h23 => by exfalso; omega)
            refine gn_inc (i := 1) (a := i) (q := 1) rfl dX3_postThree_105 (nle rfl) rfl ?_
            refine go_goto (tgt := 2) dX3_postThree_108 (by decide) ?_
            refine ih (fun a b d h z => ?_) _ _
            by_cases e : a = i
            · rw [e] at z
              exact hnb b d (hq b z.2.2.2.1.1.1) z
            · exact hn a b d (by omega) z
        · intro j hj ihj hij hnb x3
          refine go_aload_n (q := 0) (i := 0) rfl rfl dX3_postThree_12 ?_
          refine go_iload_n (q := 1) (i := 1) rfl rfl dX3_postThree_13 ?_
          refine go_callV okmX3_canBeWatched lmX3_39 ⟨nle rfl, nle rfl⟩ hg.o ⟨by decide, rfl⟩ (ev_canW hg hO hS hG hq hf4 hg4 hfg (c := i) (by omega)) npmX3_canBeWatched rfl (nle rfl) ⟨nle rfl, nle rfl⟩ dX3_postThree_14 ?_
          rintro _ mz ⟨rfl, hz⟩
          subst mz
          refine go_c1 ?_
          refine go_if_eq (tgt := 105) dX3_postThree_17 (by decide) (fun h17 => ?_) (fun h17 => ?_)
          · skip
            refine gn_inc (i := 1) (a := i) (q := 1) rfl dX3_postThree_105 (nle rfl) rfl ?_
            refine go_goto (tgt := 2) dX3_postThree_108 (by decide) ?_
            refine ih (fun a b d h z => ?_) _ _
            by_cases e : a = i
            · rw [e] at z
              exact absurd z.2.2.1 (pz.mp h17)
            · exact hn a b d (by omega) z
          · skip
            refine go_iload_n (q := 2) (i := 2) rfl rfl dX3_postThree_20 ?_
            refine go_bipush (v := nI 40) (by decide) dX3_postThree_21 ?_
            refine gn_ge (by omega) (by omega) (tgt := 105) dX3_postThree_23 (by decide) (fun h23 => by exfalso; omega) (fun h23 => ?_)
            refine go_iload_n (q := 2) (i := 2) rfl rfl dX3_postThree_26 ?_
            refine go_iconst (v := nI 1) (by decide) dX3_postThree_27 ?_
            refine gn_add dX3_postThree_28 ?_
            refine go_istore_n (q := 3) (i := 3) rfl dX3_postThree_29 (nle rfl) (nle rfl) ?_
            have keyd : ∀ k, k ≤ 40 → j < k → (∀ d, d < k → ¬ T3 q f g i j d) → Go mX3_postThree (fun o m' => Ch (fun x => x = 225) m m' ∧ ((o = some (.int (nI 1)) ∧ ∃ a b d, F3 q f g a b d ∧ gI m' 225 0 = nI a ∧ gI m' 225 1 = nI b ∧ gI m' 225 2 = nI d) ∨ (o = some (.int (nI 0)) ∧ N3 q f g))) 30 [some (.ref 224), some (.int (nI i)), some (.int (nI j)), some (.int (nI k))] [] m 0 0 := by
              refine loop_up 40 ?_ ?_
              · intro hjk hnd
                refine go_aload_n (q := 0) (i := 0) rfl rfl dX3_postThree_30 ?_
                refine go_iload_n (q := 2) (i := 2) rfl rfl dX3_postThree_31 ?_
                refine go_callV okmX3_canBeWatched lmX3_39 ⟨nle rfl, nle rfl⟩ hg.o ⟨by decide, rfl⟩ (ev_canW hg hO hS hG hq hf4 hg4 hfg (c := j) (by omega)) npmX3_canBeWatched rfl (nle rfl) ⟨nle rfl, nle rfl⟩ dX3_postThree_32 ?_
                rintro _ mz ⟨rfl, hz⟩
                subst mz
                refine go_c1 ?_
                refine go_if_eq (tgt := 99) dX3_postThree_35 (by decide) (fun h35 => ?_) (fun h35 => ?_)
                · skip
                  refine gn_inc (i := 2) (a := j) (q := 1) rfl dX3_postThree_99 (nle rfl) rfl ?_
                  refine go_goto (tgt := 12) dX3_postThree_102 (by decide) ?_
                  refine ihj (by omega) (fun b d h z => ?_) _
                  by_cases e : b = j
                  · rw [e] at z
                    exact absurd z.2.2.2.1 (pz.mp h35)
                  · exact hnb b d (by omega) z
                · skip
                  refine go_iload_n (q := 3) (i := 3) rfl rfl dX3_postThree_38 ?_
                  refine go_bipush (v := nI 40) (by decide) dX3_postThree_39 ?_
                  refine gn_ge (by omega) (by omega) (tgt := 99) dX3_postThree_41 (by decide) (fun h41 => ?_) (fun h41 => by exfalso; omega)
                  refine gn_inc (i := 2) (a := j) (q := 1) rfl dX3_postThree_99 (nle rfl) rfl ?_
                  refine go_goto (tgt := 12) dX3_postThree_102 (by decide) ?_
                  refine ihj (by omega) (fun b d h z => ?_) _
                  by_cases e : b = j
                  · rw [e] at z
                    exact hnd d (hq d z.2.2.2.2.1.1.1) z
                  · exact hnb b d (by omega) z
              · intro k hk ihk hjk hnd
                refine go_aload_n (q := 0) (i := 0) rfl rfl dX3_postThree_30 ?_
                refine go_iload_n (q := 2) (i := 2) rfl rfl dX3_postThree_31 ?_
                refine go_callV okmX3_canBeWatched lmX3_39 ⟨nle rfl, nle rfl⟩ hg.o ⟨by decide, rfl⟩ (ev_canW hg hO hS hG hq hf4 hg4 hfg (c := j) (by omega)) npmX3_canBeWatched rfl (nle rfl) ⟨nle rfl, nle rfl⟩ dX3_postThree_32 ?_
                rintro _ mz ⟨rfl, hz⟩
                subst mz
                refine go_c1 ?_
                refine go_if_eq (tgt := 99) dX3_postThree_35 (by decide) (fun h35 => ?_) (fun h35 => ?_)
                · skip
                  refine gn_inc (i := 2) (a := j) (q := 1) rfl dX3_postThree_99 (nle rfl) rfl ?_
                  refine go_goto (tgt := 12) dX3_postThree_102 (by decide) ?_
                  refine ihj (by omega) (fun b d h z => ?_) _
                  by_cases e : b = j
                  · rw [e] at z
                    exact absurd z.2.2.2.1 (pz.mp h35)
                  · exact hnb b d (by omega) z
                · skip
                  refine go_iload_n (q := 3) (i := 3) rfl rfl dX3_postThree_38 ?_
                  refine go_bipush (v := nI 40) (by decide) dX3_postThree_39 ?_
                  refine gn_ge (by omega) (by omega) (tgt := 99) dX3_postThree_41 (by decide) (fun h41 => by exfalso; omega) (fun h41 => ?_)
                  refine go_aload_n (q := 0) (i := 0) rfl rfl dX3_postThree_44 ?_
                  refine go_iload_n (q := 3) (i := 3) rfl rfl dX3_postThree_45 ?_
                  refine go_callV okmX3_canBeWatched lmX3_39 ⟨nle rfl, nle rfl⟩ hg.o ⟨by decide, rfl⟩ (ev_canW hg hO hS hG hq hf4 hg4 hfg (c := k) (by omega)) npmX3_canBeWatched rfl (nle rfl) ⟨nle rfl, nle rfl⟩ dX3_postThree_46 ?_
                  rintro _ mz ⟨rfl, hz⟩
                  subst mz
                  refine go_c1 ?_
                  refine go_if_eq (tgt := 93) dX3_postThree_49 (by decide) (fun h49 => ?_) (fun h49 => ?_)
                  · skip
                    refine gn_inc (i := 3) (a := k) (q := 1) rfl dX3_postThree_93 (nle rfl) rfl ?_
                    refine go_goto (tgt := 30) dX3_postThree_96 (by decide) ?_
                    refine ihk (by omega) (fun d h z => ?_)
                    by_cases e : d = k
                    · rw [e] at z
                      exact absurd z.2.2.2.2.1 (pz.mp h49)
                    · exact hnd d (by omega) z
                  · skip
                    refine go_aload_n (q := 0) (i := 0) rfl rfl dX3_postThree_52 ?_
                    refine go_lconst (v := 1) (by decide) dX3_postThree_53 ?_
                    refine go_iload_n (q := 1) (i := 1) rfl rfl dX3_postThree_54 ?_
                    refine go_lshl dX3_postThree_55 ?_
                    refine go_lconst (v := 1) (by decide) dX3_postThree_56 ?_
                    refine go_iload_n (q := 2) (i := 2) rfl rfl dX3_postThree_57 ?_
                    refine go_lshl dX3_postThree_58 ?_
                    refine go_lor dX3_postThree_59 ?_
                    refine go_lconst (v := 1) (by decide) dX3_postThree_60 ?_
                    refine go_iload_n (q := 3) (i := 3) rfl rfl dX3_postThree_61 ?_
                    refine go_lshl dX3_postThree_62 ?_
                    refine go_lor dX3_postThree_63 ?_
                    refine go_callV okmX3_cuts lmX3_25 ⟨nle rfl, nle rfl⟩ hg.o ⟨by decide, rfl⟩ (ev_cuts hg hO hS hG hq hf4 hg4 hfg ((((BS.one (k := i) (by omega)).or (BS.one (k := j) (by omega))).or (BS.one (k := k) (by omega))).c (fun c => Iff.rfl) : BS _ (w3 i j k))) npmX3_cuts rfl (nle rfl) ⟨nle rfl, nle rfl⟩ dX3_postThree_64 ?_
                    rintro _ mz ⟨rfl, hz⟩
                    subst mz
                    refine go_c1 ?_
                    refine go_if_eq (tgt := 93) dX3_postThree_67 (by decide) (fun h67 => ?_) (fun h67 => ?_)
                    · skip
                      refine gn_inc (i := 3) (a := k) (q := 1) rfl dX3_postThree_93 (nle rfl) rfl ?_
                      refine go_goto (tgt := 30) dX3_postThree_96 (by decide) ?_
                      refine ihk (by omega) (fun d h z => ?_)
                      by_cases e : d = k
                      · rw [e] at z
                        exact absurd z.2.2.2.2.2 (pz.mp h67)
                      · exact hnd d (by omega) z
                    · skip
                      refine go_aload_n (q := 0) (i := 0) rfl rfl dX3_postThree_70 ?_
                      refine go_getR lf3_9 rfl hg.o hg.r0 dX3_postThree_71 ?_
                      refine go_iconst (v := nI 0) (by decide) dX3_postThree_74 ?_
                      refine go_iload_n (q := 1) (i := 1) rfl rfl dX3_postThree_75 ?_
                      refine go_iast (j := 0) hg.i0 (by omega) (by first | decide | omega) rfl dX3_postThree_76 ?_
                      refine go_aload_n (q := 0) (i := 0) rfl rfl dX3_postThree_77 ?_
                      refine go_getR lf3_9 rfl hg.o hg.r0 dX3_postThree_78 ?_
                      refine go_iconst (v := nI 1) (by decide) dX3_postThree_81 ?_
                      refine go_iload_n (q := 2) (i := 2) rfl rfl dX3_postThree_82 ?_
                      refine go_iast (j := 1) hg.i0 (by omega) (by first | decide | omega) rfl dX3_postThree_83 ?_
                      refine go_aload_n (q := 0) (i := 0) rfl rfl dX3_postThree_84 ?_
                      refine go_getR lf3_9 rfl hg.o hg.r0 dX3_postThree_85 ?_
                      refine go_iconst (v := nI 2) (by decide) dX3_postThree_88 ?_
                      refine go_iload_n (q := 3) (i := 3) rfl rfl dX3_postThree_89 ?_
                      refine go_iast (j := 2) hg.i0 (by omega) (by first | decide | omega) rfl dX3_postThree_90 ?_
                      refine go_iconst (v := nI 1) (by decide) dX3_postThree_91 ?_
                      refine go_zret rfl (by decide) ⟨Nat.zero_le _, Nat.zero_le _⟩ dX3_postThree_92 ?_
                      refine ⟨Ch.i (Ch.i (Ch.i Ch.rf rfl) rfl) rfl, Or.inl ⟨rfl, i, j, k, ⟨⟨hij, hjk, pnz h17, pnz h35, pnz h49, pnz h67⟩, fun a b d h z => ?_⟩, ?_, ?_, ?_⟩⟩
                      · rcases h with h | ⟨h1, h2 | ⟨h2, h3⟩⟩
                        · exact hn a b d h z
                        · rw [h1] at z; exact hnb b d h2 z
                        · rw [h1, h2] at z; exact hnd d h3 z
                      · rw [gI_s, upd_ne (by decide), gI_s, upd_ne (by decide), gI_s, upd_eq]
                      · rw [gI_s, upd_ne (by decide), gI_s, upd_eq]
                      · rw [gI_s, upd_eq]
            exact keyd (j + 1) (by omega) (by omega) (fun d h z => absurd z.2.1 (by omega))
      exact keyb (i + 1) (by omega) (by omega) (fun b d h z => absurd z.1 (by omega)) _
  refine go_iconst (v := nI 0) (by decide) dX3_postThree_0 ?_
  refine go_istore_n (q := 1) (i := 1) rfl dX3_postThree_1 (nle rfl) (nle rfl) ?_
  exact key 0 (Nat.zero_le _) (fun a b d h => absurd h (Nat.not_lt_zero a)) _ _
def WaP (q : Nat → Prop) (f g : Nat) (T : Nat → Int32) (v : Int32) : Prop :=
  (Gd q f g w0 ∧ v = nI 0) ∨
  (¬ Gd q f g w0 ∧ v = nI 1 ∧ ∃ a, F1 q f g a ∧ T 0 = nI a) ∨
  (¬ Gd q f g w0 ∧ N1 q f g ∧ v = nI 2 ∧ ∃ a b, F2 q f g a b ∧ T 0 = nI a ∧ T 1 = nI b) ∨
  (¬ Gd q f g w0 ∧ N1 q f g ∧ N2 q f g ∧ v = nI 3 ∧ ∃ a b d, F3 q f g a b d ∧ T 0 = nI a ∧ T 1 = nI b ∧ T 2 = nI d) ∨
  (¬ Gd q f g w0 ∧ N1 q f g ∧ N2 q f g ∧ N3 q f g ∧ v = -2)
/-- the guard writes its own two alone -/
def GdK (m m' : Me) : Prop := m'.1 = m.1 ∧ gR m' = gR m ∧ (∀ x, x ≠ 225 → gI m' x = gI m x) ∧ ∀ x, x ≠ 224 → gJ m' x = gJ m x
theorem GdK.ch {m m' m'' : Me} (h : GdK m m') (c : Ch (fun x => x = 225) m' m'') : GdK m m'' := ⟨c.1.trans h.1, c.2.2.1.trans h.2.1, fun x z => (c.at z).trans (h.2.2.1 x z), fun x z => by rw [c.2.1]; exact h.2.2.2 x z⟩
theorem BSw0 : BS 0 w0 := BS.z
theorem wf3c {A : Nat → Prop} {m m' : Me} (c : Ch A m m') (h : Wf3 m.1 (gR m) 224) : Wf3 m'.1 (gR m') 224 := Ch.to (F := fun n R => Wf3 n R 224) c h
set_option maxRecDepth 100000 in
set_option maxHeartbeats 4000000 in
theorem ev_post {m : Me} {q : Nat → Prop} {f g : Nat} {x : Int64} (hg : Wf3 m.1 (gR m) 224) (hO : BS x q) (hq : ∀ c, q c → c < 40) (hf4 : f < 40) (hg4 : g < 40) (hfg : ¬ g = f) : Ev mX3_post [.ref 224, .long x, .int (nI f), .int (nI g)] m (fun o m' => GdK m m' ∧ ∃ v, o = some (.int v) ∧ WaP q f g (gI m' 225) v) := by
  refine ⟨plmX3_post, nle rfl, ?_⟩
  refine go_aload_n (q := 0) (i := 0) rfl rfl dX3_post_0 ?_
  refine go_lload_n (q := 1) (i := 1) rfl rfl dX3_post_1 ?_
  refine go_putJ lf3_15 rfl (Or.inl rfl) hg.o dX3_post_2 ?_
  refine go_aload_n (q := 0) (i := 0) rfl rfl dX3_post_5 ?_
  refine go_lconst (v := 1) (by decide) dX3_post_6 ?_
  refine go_iload_n (q := 3) (i := 3) rfl rfl dX3_post_7 ?_
  refine go_lshl dX3_post_8 ?_
  refine go_putJ lf3_19 rfl (Or.inl rfl) hg.o dX3_post_9 ?_
  refine go_aload_n (q := 0) (i := 0) rfl rfl dX3_post_12 ?_
  refine go_lconst (v := 1) (by decide) dX3_post_13 ?_
  refine go_iload (i := 4) rfl dX3_post_14 ?_
  refine go_lshl dX3_post_16 ?_
  refine go_putJ lf3_22 rfl (Or.inl rfl) hg.o dX3_post_17 ?_
  generalize hm1 : sJ (sJ (sJ m 224 _) 224 _) 224 _ = m1
  have c1 : GdK m m1 := ⟨by rw [← hm1]; rfl, by rw [← hm1]; rfl, fun y _ => by rw [← hm1]; rfl, fun y z => by rw [← hm1, gJ_n z, gJ_n z, gJ_n z]⟩
  have hO : BS (gJ m1 224 1) q := by rw [← hm1, gJ_s, gJ_s, gJ_s]; exact hO
  have hS : BS (gJ m1 224 2) (fun c => c = f) := by rw [← hm1, gJ_s, gJ_s, gJ_s]; exact BS.one (k := f) (by omega)
  have hG : BS (gJ m1 224 3) (fun c => c = g) := by rw [← hm1, gJ_s, gJ_s, gJ_s]; exact BS.one (k := g) (by omega)
  have hg : Wf3 m1.1 (gR m1) 224 := by rw [c1.1, c1.2.1]; exact hg
  refine go_aload_n (q := 0) (i := 0) rfl rfl dX3_post_20 ?_
  refine go_lconst (v := 0) (by decide) dX3_post_21 ?_
  refine go_callV okmX3_cuts lmX3_25 ⟨nle rfl, nle rfl⟩ hg.o ⟨by decide, rfl⟩ (ev_cuts hg hO hS hG hq hf4 hg4 hfg BSw0) npmX3_cuts rfl (nle rfl) ⟨nle rfl, nle rfl⟩ dX3_post_22 ?_
  rintro _ mz ⟨rfl, hz⟩
  subst mz
  refine go_c1 ?_
  refine go_if_eq (tgt := 30) dX3_post_25 (by decide) (fun h25 => ?_) (fun h25 => ?_)
  · skip
    refine go_aload_n (q := 0) (i := 0) rfl rfl dX3_post_30 ?_
    refine go_callV okmX3_postOne lmX3_29 ⟨nle rfl, nle rfl⟩ hg.o ⟨by decide, rfl⟩ (ev_post1 hg hO hS hG hq hf4 hg4 hfg) npmX3_postOne rfl (nle rfl) ⟨nle rfl, nle rfl⟩ dX3_post_31 ?_
    rintro _ m2 ⟨cA2, ⟨rfl, a, ha, ea⟩ | ⟨rfl, h1⟩⟩
    · skip
      have c2 := c1.ch cA2
      have hg := wf3c cA2 hg
      have hO : BS (gJ m2 224 1) q := by rw [cA2.2.1]; exact hO
      have hS : BS (gJ m2 224 2) (fun c => c = f) := by rw [cA2.2.1]; exact hS
      have hG : BS (gJ m2 224 3) (fun c => c = g) := by rw [cA2.2.1]; exact hG
      refine go_c1 ?_
      refine gz_eq (by omega) (tgt := 39) dX3_post_34 (by decide) (fun h34 => by exfalso; omega) (fun h34 => ?_)
      refine go_iconst (v := nI 1) (by decide) dX3_post_37 ?_
      refine go_iret rfl ⟨Nat.zero_le _, Nat.zero_le _⟩ dX3_post_38 ?_
      exact ⟨c2, _, rfl, Or.inr (Or.inl ⟨pz.mp h25, rfl, a, ha, ea⟩)⟩
    · skip
      have c2 := c1.ch cA2
      have hg := wf3c cA2 hg
      have hO : BS (gJ m2 224 1) q := by rw [cA2.2.1]; exact hO
      have hS : BS (gJ m2 224 2) (fun c => c = f) := by rw [cA2.2.1]; exact hS
      have hG : BS (gJ m2 224 3) (fun c => c = g) := by rw [cA2.2.1]; exact hG
      refine go_c1 ?_
      refine gz_eq (by omega) (tgt := 39) dX3_post_34 (by decide) (fun h34 => ?_) (fun h34 => by exfalso; omega)
      refine go_aload_n (q := 0) (i := 0) rfl rfl dX3_post_39 ?_
      refine go_callV okmX3_postTwo lmX3_33 ⟨nle rfl, nle rfl⟩ hg.o ⟨by decide, rfl⟩ (ev_post2 hg hO hS hG hq hf4 hg4 hfg) npmX3_postTwo rfl (nle rfl) ⟨nle rfl, nle rfl⟩ dX3_post_40 ?_
      rintro _ m3 ⟨cA3, ⟨rfl, a, b, ha, ea, eb⟩ | ⟨rfl, h2⟩⟩
      · skip
        have c3 := c2.ch cA3
        have hg := wf3c cA3 hg
        have hO : BS (gJ m3 224 1) q := by rw [cA3.2.1]; exact hO
        have hS : BS (gJ m3 224 2) (fun c => c = f) := by rw [cA3.2.1]; exact hS
        have hG : BS (gJ m3 224 3) (fun c => c = g) := by rw [cA3.2.1]; exact hG
        refine go_c1 ?_
        refine gz_eq (by omega) (tgt := 48) dX3_post_43 (by decide) (fun h43 => by exfalso; omega) (fun h43 => ?_)
        refine go_iconst (v := nI 2) (by decide) dX3_post_46 ?_
        refine go_iret rfl ⟨Nat.zero_le _, Nat.zero_le _⟩ dX3_post_47 ?_
        exact ⟨c3, _, rfl, Or.inr (Or.inr (Or.inl ⟨pz.mp h25, h1, rfl, a, b, ha, ea, eb⟩))⟩
      · skip
        have c3 := c2.ch cA3
        have hg := wf3c cA3 hg
        have hO : BS (gJ m3 224 1) q := by rw [cA3.2.1]; exact hO
        have hS : BS (gJ m3 224 2) (fun c => c = f) := by rw [cA3.2.1]; exact hS
        have hG : BS (gJ m3 224 3) (fun c => c = g) := by rw [cA3.2.1]; exact hG
        refine go_c1 ?_
        refine gz_eq (by omega) (tgt := 48) dX3_post_43 (by decide) (fun h43 => ?_) (fun h43 => by exfalso; omega)
        refine go_aload_n (q := 0) (i := 0) rfl rfl dX3_post_48 ?_
        refine go_callV okmX3_postThree lmX3_36 ⟨nle rfl, nle rfl⟩ hg.o ⟨by decide, rfl⟩ (ev_post3 hg hO hS hG hq hf4 hg4 hfg) npmX3_postThree rfl (nle rfl) ⟨nle rfl, nle rfl⟩ dX3_post_49 ?_
        rintro _ m4 ⟨cA4, ⟨rfl, a, b, d, ha, ea, eb, ed⟩ | ⟨rfl, h3⟩⟩
        · skip
          have c4 := c3.ch cA4
          have hg := wf3c cA4 hg
          have hO : BS (gJ m4 224 1) q := by rw [cA4.2.1]; exact hO
          have hS : BS (gJ m4 224 2) (fun c => c = f) := by rw [cA4.2.1]; exact hS
          have hG : BS (gJ m4 224 3) (fun c => c = g) := by rw [cA4.2.1]; exact hG
          refine go_c1 ?_
          refine gz_eq (by omega) (tgt := 59) dX3_post_52 (by decide) (fun h52 => by exfalso; omega) (fun h52 => ?_)
          refine go_iconst (v := nI 3) (by decide) dX3_post_55 ?_
          refine go_goto (tgt := 61) dX3_post_56 (by decide) ?_
          refine go_iret rfl ⟨Nat.zero_le _, Nat.zero_le _⟩ dX3_post_61 ?_
          exact ⟨c4, _, rfl, Or.inr (Or.inr (Or.inr (Or.inl ⟨pz.mp h25, h1, h2, rfl, a, b, d, ha, ea, eb, ed⟩)))⟩
        · skip
          have c4 := c3.ch cA4
          have hg := wf3c cA4 hg
          have hO : BS (gJ m4 224 1) q := by rw [cA4.2.1]; exact hO
          have hS : BS (gJ m4 224 2) (fun c => c = f) := by rw [cA4.2.1]; exact hS
          have hG : BS (gJ m4 224 3) (fun c => c = g) := by rw [cA4.2.1]; exact hG
          refine go_c1 ?_
          refine gz_eq (by omega) (tgt := 59) dX3_post_52 (by decide) (fun h52 => ?_) (fun h52 => by exfalso; omega)
          refine go_bipush (v := -2) (by decide) dX3_post_59 ?_
          refine go_iret rfl ⟨Nat.zero_le _, Nat.zero_le _⟩ dX3_post_61 ?_
          exact ⟨c4, _, rfl, Or.inr (Or.inr (Or.inr (Or.inr ⟨pz.mp h25, h1, h2, h3, rfl⟩)))⟩
  · skip
    refine go_iconst (v := nI 0) (by decide) dX3_post_28 ?_
    refine go_iret rfl ⟨Nat.zero_le _, Nat.zero_le _⟩ dX3_post_29 ?_
    exact ⟨c1, _, rfl, Or.inl ⟨pnz h25, rfl⟩⟩
set_option maxRecDepth 100000 in
set_option maxHeartbeats 4000000 in
theorem ev_watchedAt {m : Me} {j : Nat} (hg : Wf3 m.1 (gR m) 224) (hj : j < 3) : Ev mX3_watchedAt [.ref 224, .int (nI j)] m (fun o m' => o = some (.int (gI m 225 j)) ∧ m' = m) := by
  refine ⟨plmX3_watchedAt, nle rfl, ?_⟩
  refine go_iload_n (q := 1) (i := 1) rfl rfl dX3_watchedAt_0 ?_
  refine gz_lt (by omega) (tgt := 18) dX3_watchedAt_1 (by decide) (fun h1 => by exfalso; omega) (fun h1 => ?_)
  refine go_iload_n (q := 1) (i := 1) rfl rfl dX3_watchedAt_4 ?_
  refine go_iconst (v := nI 3) (by decide) dX3_watchedAt_5 ?_
  refine gn_ge (by omega) (by omega) (tgt := 18) dX3_watchedAt_6 (by decide) (fun h6 => by exfalso; omega) (fun h6 => ?_)
  refine go_aload_n (q := 0) (i := 0) rfl rfl dX3_watchedAt_9 ?_
  refine go_getR lf3_9 rfl hg.o hg.r0 dX3_watchedAt_10 ?_
  refine go_iload_n (q := 1) (i := 1) rfl rfl dX3_watchedAt_13 ?_
  refine go_iald (j := j) hg.i0 (by omega) (by first | decide | omega) rfl dX3_watchedAt_14 ?_
  refine go_goto (tgt := 19) dX3_watchedAt_15 (by decide) ?_
  refine go_iret rfl ⟨Nat.zero_le _, Nat.zero_le _⟩ dX3_watchedAt_19 ?_
  exact ⟨rfl, rfl⟩
