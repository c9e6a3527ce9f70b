theorem gIfs_no {K : Nat → Nat} {n c : Nat} {s : Nat × Nat} (h : K s.2 ≠ 11) : gIfs K n c s = s := by
  cases n with
  | zero => rfl
  | succ n => rw [gIfs, if_neg (fun w => h w.2)]
theorem gIfs_yes {K : Nat → Nat} {n c : Nat} {s : Nat × Nat} (h0 : s.1 = 0) (h : K s.2 = 11) : gIfs K (n + 1) c s = gIfs K n (c + 1) (gIf K c s) := by rw [gIfs, if_pos ⟨h0, h⟩]
set_option maxRecDepth 100000 in
set_option maxHeartbeats 8000000 in
theorem ex_tellLaw {c0 b k sd : Nat} {B : Nat → Nat} {n z : Nat} {m0 m : Me} {s : Nat × Nat} {W : List Nat} {C : Cs} (hV : ∀ j, kG B n z j = 24 → vG B n z j < 65536) (hsd : gI m 274 19 = nI sd) (hs2 : sd < 2) (hk4 : k < 4) (hbl : 130 * sd ≤ b) (hbu : b ≤ 130 * sd + 100) (h : XB c0 B n z m0 m s W C) (hop : s.1 = 0 → gI m 274 12 = nI 0) (hB : s.1 = 0 → C.length ≤ s.2) (hB2 : C.length + W.length ≤ 410) (hb : gI m 274 44 = nI b) (hb4 : s.1 = 0 → 4 * (b - 130 * sd) + 1 ≤ s.2) : Ev mX12_tellLaw [.ref 274, .int (nI k)] m (fun o m' => o = none ∧ ∃ W' D' b', XB c0 B n z m' m' (gLE (kG B n z) 400 1 (gTk (kG B n z) 26 s)) W' D' ∧ Ft c0 b (130 * sd + 130) (4 * sd + k) m m' ∧ gI m' 274 44 = nI b' ∧ b ≤ b' ∧ b' ≤ 130 * sd + 110 ∧ D'.length + W'.length ≤ 410 ∧ ∀ q, gLE (kG B n z) 400 1 (gTk (kG B n z) 26 s) = (0, q) → LwF m' c0 b b' (4 * sd + k) C D' (laP (kG B n z) (vG B n z) (s.2 + 1)).1 (laP (kG B n z) (vG B n z) (s.2 + 1)).2 sd q) := by
  refine ⟨plmX12_tellLaw, nle rfl, ?_⟩
  have key : ∀ nf, ∀ (i : Nat) (m1 : Me) (s1 : Nat × Nat) (W : List Nat) (D : Cs), XB c0 B n z m1 m1 s1 W D → gI m1 274 44 = nI (b + i) → i ≤ 4 → Ft c0 b (130 * sd + 130) (4 * sd + k) m m1 → D.length + W.length ≤ 410 → (s1.1 = 0 → LwS m1 c0 b sd (kG B n z) (vG B n z) C D (s.2 + 1) nf i s1) → gLE (kG B n z) nf (i + 1) s1 = gLE (kG B n z) 400 1 (gTk (kG B n z) 26 s) → Go mX12_tellLaw (fun o m' => o = none ∧ ∃ W' D' b', XB c0 B n z m' m' (gLE (kG B n z) 400 1 (gTk (kG B n z) 26 s)) W' D' ∧ Ft c0 b (130 * sd + 130) (4 * sd + k) m m' ∧ gI m' 274 44 = nI b' ∧ b ≤ b' ∧ b' ≤ 130 * sd + 110 ∧ D'.length + W'.length ≤ 410 ∧ ∀ q, gLE (kG B n z) 400 1 (gTk (kG B n z) 26 s) = (0, q) → LwF m' c0 b b' (4 * sd + k) C D' (laP (kG B n z) (vG B n z) (s.2 + 1)).1 (laP (kG B n z) (vG B n z) (s.2 + 1)).2 sd q) 12 [some (.ref 274), some (.int (nI k)), some (.int (nI b)), some (.int (nI i))] [] m1 0 0 := by
    intro nf
    induction nf with
    | zero =>
      intro i m1 s1 W D h h44 hi4 hT hB2 hL hS
      have hx := h.x
      have hs9 := h.g.2.2.2.1
      have hzz := h.t.2.1
      have hzz2 := h.g.2.2.2.2.1
      by_cases h0 : s1.1 = 0
      · have := (hL h0).2.2.2.1
        omega
      · skip
        refine go_aload_n (q := 0) (i := 0) rfl rfl dX12_tellLaw_12 ?_
        refine go_getI lf12_230 rfl hx.o dX12_tellLaw_13 ?_
        rw [h.fa]
        refine gz_ne (by omega) (tgt := 129) dX12_tellLaw_16 (by decide) (fun h16 => ?_) (fun h16 => by exfalso; omega)
        exact ex_law129f (nf := 0) hV hsd hs2 hk4 hbl hbu h h44 hi4 hT hB2 h0 (by rw [← hS, gLE_f h0, show gS (kG B n z) s1 = s1 from gSum_f h0, gTk_f h0])
    | succ nf ih =>
      intro i m1 s1 W D h h44 hi4 hT hB2 hL hS
      have hx := h.x
      have hs9 := h.g.2.2.2.1
      have hzz := h.t.2.1
      have hzz2 := h.g.2.2.2.2.1
      by_cases h0 : s1.1 = 0
      · obtain ⟨y1, y2, y3, y4, y5, bs, y6, y7, y8, y9⟩ := hL h0
        have hps := pr_z h0
        by_cases hk : kG B n z s1.2 = 11
        · by_cases hi : i = 4
          · skip
            refine go_aload_n (q := 0) (i := 0) rfl rfl dX12_tellLaw_12 ?_
            refine go_getI lf12_230 rfl hx.o dX12_tellLaw_13 ?_
            rw [h.fa, h0]
            refine gz_ne (by omega) (tgt := 129) dX12_tellLaw_16 (by decide) (fun h16 => by exfalso; omega) (fun h16 => ?_)
            refine go_aload_n (q := 0) (i := 0) rfl rfl dX12_tellLaw_19 ?_
            refine go_bipush (v := nI 31) (by decide) dX12_tellLaw_20 ?_
            refine go_callV okmX12_is lmX12_248 ⟨nle rfl, nle rfl⟩ hx.o ⟨by decide, rfl⟩ (ex_is h.x h.t h.g (k := 11) (by decide)) npmX12_is rfl (nle rfl) ⟨nle rfl, nle rfl⟩ dX12_tellLaw_22 ?_
            rintro _ mz ⟨rfl, hz⟩
            subst mz
            rw [if_pos ⟨h0, hk⟩]
            refine go_c1 ?_
            refine gz_eq (by omega) (tgt := 129) dX12_tellLaw_25 (by decide) (fun h25 => by exfalso; omega) (fun h25 => ?_)
            refine go_iload_n (q := 3) (i := 3) rfl rfl dX12_tellLaw_28 ?_
            refine go_iconst (v := nI 4) (by decide) dX12_tellLaw_29 ?_
            refine gn_ne (by omega) (by omega) (tgt := 38) dX12_tellLaw_30 (by decide) (fun h30 => by exfalso; omega) (fun h30 => ?_)
            refine go_aload_n (q := 0) (i := 0) rfl rfl dX12_tellLaw_33 ?_
            refine go_iconst (v := nI 2) (by decide) dX12_tellLaw_34 ?_
            refine go_callV okmX12_fail lmX12_245 ⟨nle rfl, nle rfl⟩ hx.o ⟨by decide, rfl⟩ (ex_gfail h.x h.t h.g (c := 2) (by decide)) npmX12_fail rfl (nle rfl) ⟨nle rfl, nle rfl⟩ dX12_tellLaw_35 ?_
            rintro _ m2 ⟨rfl, f1, f2⟩
            have h2 := (h.fq f1 f2).self
            have hx := h2.x
            rw [show gFl 2 s1 = (2, s1.2) from if_neg (fun w => w h0)] at h2
            refine go_c0 ?_
            refine go_aload_n (q := 0) (i := 0) rfl rfl dX12_tellLaw_38 ?_
            refine go_getI lf12_230 rfl hx.o dX12_tellLaw_39 ?_
            rw [h2.fa]
            refine gz_le (by omega) (tgt := 46) dX12_tellLaw_42 (by decide) (fun h42 => by exfalso; omega) (fun h42 => ?_)
            refine go_vret rfl ⟨Nat.zero_le _, Nat.zero_le _⟩ dX12_tellLaw_45 ?_
            have hF : gLE (kG B n z) 400 1 (gTk (kG B n z) 26 s) = (2, s1.2) := by
              rw [← hS]
              show gTk _ 25 (gS _ (gIfs _ _ _ _)) = _
              rw [gIfs_yes h0 hk, gIf_5 (by omega) h0]
              exact gLE_f (n := nf) (c := i + 1 + 1) (Nat.succ_ne_zero 1)
            refine ⟨rfl, W, D, b + i, by rw [hF]; exact h2, hT.tr f2.fr.ft, (f2.2 44 (by decide) (by decide) (by decide)).trans h44, by omega, by omega, hB2, fun q hq => ?_⟩
            rw [hF] at hq
            cases hq
          · skip
            refine go_aload_n (q := 0) (i := 0) rfl rfl dX12_tellLaw_12 ?_
            refine go_getI lf12_230 rfl hx.o dX12_tellLaw_13 ?_
            rw [h.fa, h0]
            refine gz_ne (by omega) (tgt := 129) dX12_tellLaw_16 (by decide) (fun h16 => by exfalso; omega) (fun h16 => ?_)
            refine go_aload_n (q := 0) (i := 0) rfl rfl dX12_tellLaw_19 ?_
            refine go_bipush (v := nI 31) (by decide) dX12_tellLaw_20 ?_
            refine go_callV okmX12_is lmX12_248 ⟨nle rfl, nle rfl⟩ hx.o ⟨by decide, rfl⟩ (ex_is h.x h.t h.g (k := 11) (by decide)) npmX12_is rfl (nle rfl) ⟨nle rfl, nle rfl⟩ dX12_tellLaw_22 ?_
            rintro _ mz ⟨rfl, hz⟩
            subst mz
            rw [if_pos ⟨h0, hk⟩]
            refine go_c1 ?_
            refine gz_eq (by omega) (tgt := 129) dX12_tellLaw_25 (by decide) (fun h25 => by exfalso; omega) (fun h25 => ?_)
            refine go_iload_n (q := 3) (i := 3) rfl rfl dX12_tellLaw_28 ?_
            refine go_iconst (v := nI 4) (by decide) dX12_tellLaw_29 ?_
            refine gn_ne (by omega) (by omega) (tgt := 38) dX12_tellLaw_30 (by decide) (fun h30 => ?_) (fun h30 => by exfalso; omega)
            refine go_aload_n (q := 0) (i := 0) rfl rfl dX12_tellLaw_38 ?_
            refine go_getI lf12_230 rfl hx.o dX12_tellLaw_39 ?_
            rw [h.fa, h0]
            refine gz_le (by omega) (tgt := 46) dX12_tellLaw_42 (by decide) (fun h42 => ?_) (fun h42 => by exfalso; omega)
            refine gn_inc (i := 3) (a := i) (q := 1) rfl dX12_tellLaw_46 (nle rfl) rfl ?_
            refine go_aload_n (q := 0) (i := 0) rfl rfl dX12_tellLaw_49 ?_
            refine go_callV okmX12_goesOn lmX12_251 ⟨nle rfl, nle rfl⟩ hx.o ⟨by decide, rfl⟩ (ex_goesOn h.x h.t h.g (h.nx h0 (by omega))) npmX12_goesOn rfl (nle rfl) ⟨nle rfl, nle rfl⟩ dX12_tellLaw_50 ?_
            rintro _ m2 ⟨rfl, f1, f2⟩
            rw [gGo_t (K := kG B n z) (k := 11) (fun _ => hk)] at f1
            have h := (h.fq f1 f2).self
            have hx := h.x
            have tt : Ft c0 (b + i) (130 * sd + 130) (4 * sd + k) m1 m2 := f2.fr.ft
            have a44 : gI m2 274 44 = nI (b + i) := (f2.2 44 (by decide) (by decide) (by decide)).trans h44
            have o2 : gI m2 274 12 = nI 0 := (f2.2 12 (by decide) (by decide) (by decide)).trans y2
            refine go_c0 ?_
            refine go_aload_n (q := 0) (i := 0) rfl rfl dX12_tellLaw_53 ?_
            refine go_getR lf12_109 rfl hx.o hx.r45 dX12_tellLaw_54 ?_
            refine go_aload_n (q := 0) (i := 0) rfl rfl dX12_tellLaw_57 ?_
            refine go_getI lf12_269 rfl hx.o dX12_tellLaw_58 ?_
            rw [a44]
            refine go_iconst (v := nI 1) (by decide) dX12_tellLaw_61 ?_
            refine go_zast (j := (b + i)) hx.i45 (by omega) (by first | decide | omega) rfl (by decide) dX12_tellLaw_62 ?_
            have hr := h.row (x := 305) (r := upd (gI m2 305) (b + i) (nI 1)) (by decide)
            have tn : Ft c0 (b + i) (130 * sd + 130) (4 * sd + k) m2 (sI m2 305 (upd (gI m2 305) (b + i) (nI 1))) := Ft.row (by decide) ⟨Nat.le_refl _, by omega⟩
            have an : gI (sI m2 305 (upd (gI m2 305) (b + i) (nI 1))) 274 44 = nI (b + i) := by rw [gI_n (by decide)]; exact a44
            have on : gI (sI m2 305 (upd (gI m2 305) (b + i) (nI 1))) 274 12 = gI m2 274 12 := by rw [gI_n (by decide)]
            have rn : gI (sI m2 305 (upd (gI m2 305) (b + i) (nI 1))) 305 (b + i) = nI 1 := by rw [gI_s, upd_same]
            generalize sI m2 305 (upd (gI m2 305) (b + i) (nI 1)) = m3 at hr tn an on rn ⊢
            have h := hr
            have hx := h.x
            have tt := tt.tr tn
            have a44 := an
            have r5 := rn
            have o2 := on.trans o2
            refine go_aload_n (q := 0) (i := 0) rfl rfl dX12_tellLaw_63 ?_
            refine go_getR lf12_113 rfl hx.o hx.r46 dX12_tellLaw_64 ?_
            refine go_aload_n (q := 0) (i := 0) rfl rfl dX12_tellLaw_67 ?_
            refine go_getI lf12_269 rfl hx.o dX12_tellLaw_68 ?_
            rw [a44]
            refine go_aload_n (q := 0) (i := 0) rfl rfl dX12_tellLaw_71 ?_
            refine go_getI lf12_272 rfl hx.o dX12_tellLaw_72 ?_
            rw [h.r.1]
            refine go_iast (j := (b + i)) hx.i46 (by omega) (by first | decide | omega) rfl dX12_tellLaw_75 ?_
            have hr := h.row (x := 306) (r := upd (gI m3 306) (b + i) (nI (c0 + D.length))) (by decide)
            have tn : Ft c0 (b + i) (130 * sd + 130) (4 * sd + k) m3 (sI m3 306 (upd (gI m3 306) (b + i) (nI (c0 + D.length)))) := Ft.row (by decide) ⟨Nat.le_refl _, by omega⟩
            have an : gI (sI m3 306 (upd (gI m3 306) (b + i) (nI (c0 + D.length)))) 274 44 = nI (b + i) := by rw [gI_n (by decide)]; exact a44
            have on : gI (sI m3 306 (upd (gI m3 306) (b + i) (nI (c0 + D.length)))) 274 12 = gI m3 274 12 := by rw [gI_n (by decide)]
            have rn : gI (sI m3 306 (upd (gI m3 306) (b + i) (nI (c0 + D.length)))) 306 (b + i) = nI (c0 + D.length) := by rw [gI_s, upd_same]
            have k5 : gI (sI m3 306 (upd (gI m3 306) (b + i) (nI (c0 + D.length)))) 305 (b + i) = gI m3 305 (b + i) := by rw [gI_n (by decide)]
            generalize sI m3 306 (upd (gI m3 306) (b + i) (nI (c0 + D.length))) = m4 at hr tn an on rn k5 ⊢
            have h := hr
            have hx := h.x
            have tt := tt.tr tn
            have a44 := an
            have r5 := k5.trans r5
            have r6 := rn
            have o2 := on.trans o2
            refine go_aload_n (q := 0) (i := 0) rfl rfl dX12_tellLaw_76 ?_
            refine go_callV okmX12_expression lmX12_338 ⟨nle rfl, nle rfl⟩ hx.o ⟨by decide, rfl⟩ (ex_expr hV h (fun _ => o2) (fun q => by rw [(gTk_z q).2.2.2]; show D.length ≤ s1.2 + 1; omega) (by omega)) npmX12_expression rfl (nle rfl) ⟨nle rfl, nle rfl⟩ dX12_tellLaw_77 ?_
            rintro _ m5 ⟨rfl, W5, D5, h, l5, q5⟩
            have c5 := h.f
            have h := h.self
            have hx := h.x
            have tt := tt.tr (c5).ft
            have a44 := ((c5).2.1 44 (by decide) (by decide) (by decide) (by decide) (by decide) (by decide)).trans a44
            have r5 := (congrFun ((c5).1.at (x := 305) (by decide)) (b + i)).trans r5
            have r6 := (congrFun ((c5).1.at (x := 306) (by decide)) (b + i)).trans r6
            refine go_c0 ?_
            refine go_aload_n (q := 0) (i := 0) rfl rfl dX12_tellLaw_80 ?_
            refine go_bipush (v := nI 13) (by decide) dX12_tellLaw_81 ?_
            refine go_callV okmX12_must lmX12_296 ⟨nle rfl, nle rfl⟩ hx.o ⟨by decide, rfl⟩ (ex_must h.x h.t h.g (k := 31) (by decide)) npmX12_must rfl (nle rfl) ⟨nle rfl, nle rfl⟩ dX12_tellLaw_83 ?_
            rintro _ m6 ⟨rfl, f1, f2⟩
            have h := (h.fq f1 f2).self
            have hx := h.x
            have hs9 := h.g.2.2.2.1
            have oq := f2.2 12 (by decide) (by decide) (by decide)
            have tt := tt.tr (f2.fr (c0 := c0)).ft
            have a44 := ((f2.fr (c0 := c0)).2.1 44 (by decide) (by decide) (by decide) (by decide) (by decide) (by decide)).trans a44
            have r5 := (congrFun ((f2.fr (c0 := c0)).1.at (x := 305) (by decide)) (b + i)).trans r5
            have r6 := (congrFun ((f2.fr (c0 := c0)).1.at (x := 306) (by decide)) (b + i)).trans r6
            have zk : (gTk (kG B n z) 31 (gS (kG B n z) (gTk (kG B n z) 11 s1))).1 = 0 → gI m6 274 12 = nI 0 ∧ D5.length ≤ (gTk (kG B n z) 31 (gS (kG B n z) (gTk (kG B n z) 11 s1))).2 := fun w => by
              obtain ⟨w1, -, -, w4⟩ := gTk_z w
              obtain ⟨-, -, x3, x4⟩ := q5 _ (pr_z w1)
              rw [w4]
              exact ⟨oq.trans x3, by show D5.length ≤ (gS (kG B n z) (gTk (kG B n z) 11 s1)).2 + 1; omega⟩
            refine go_c0 ?_
            refine go_aload_n (q := 0) (i := 0) rfl rfl dX12_tellLaw_86 ?_
            refine go_getR lf12_116 rfl hx.o hx.r47 dX12_tellLaw_87 ?_
            refine go_aload_n (q := 0) (i := 0) rfl rfl dX12_tellLaw_90 ?_
            refine go_getI lf12_269 rfl hx.o dX12_tellLaw_91 ?_
            rw [a44]
            refine go_aload_n (q := 0) (i := 0) rfl rfl dX12_tellLaw_94 ?_
            refine go_getI lf12_272 rfl hx.o dX12_tellLaw_95 ?_
            rw [h.r.1]
            refine go_iast (j := (b + i)) hx.i47 (by omega) (by first | decide | omega) rfl dX12_tellLaw_98 ?_
            have hr := h.row (x := 307) (r := upd (gI m6 307) (b + i) (nI (c0 + D5.length))) (by decide)
            have tn : Ft c0 (b + i) (130 * sd + 130) (4 * sd + k) m6 (sI m6 307 (upd (gI m6 307) (b + i) (nI (c0 + D5.length)))) := Ft.row (by decide) ⟨Nat.le_refl _, by omega⟩
            have an : gI (sI m6 307 (upd (gI m6 307) (b + i) (nI (c0 + D5.length)))) 274 44 = nI (b + i) := by rw [gI_n (by decide)]; exact a44
            have on : gI (sI m6 307 (upd (gI m6 307) (b + i) (nI (c0 + D5.length)))) 274 12 = gI m6 274 12 := by rw [gI_n (by decide)]
            have rn : gI (sI m6 307 (upd (gI m6 307) (b + i) (nI (c0 + D5.length)))) 307 (b + i) = nI (c0 + D5.length) := by rw [gI_s, upd_same]
            have k5 : gI (sI m6 307 (upd (gI m6 307) (b + i) (nI (c0 + D5.length)))) 305 (b + i) = gI m6 305 (b + i) := by rw [gI_n (by decide)]
            have k6 : gI (sI m6 307 (upd (gI m6 307) (b + i) (nI (c0 + D5.length)))) 306 (b + i) = gI m6 306 (b + i) := by rw [gI_n (by decide)]
            generalize sI m6 307 (upd (gI m6 307) (b + i) (nI (c0 + D5.length))) = m7 at hr tn an on rn k5 k6 ⊢
            have h := hr
            have hx := h.x
            have tt := tt.tr tn
            have a44 := an
            have r5 := k5.trans r5
            have r6 := k6.trans r6
            have r7 := rn
            have o7 := on
            have hs9 := h.g.2.2.2.1
            refine go_aload_n (q := 0) (i := 0) rfl rfl dX12_tellLaw_99 ?_
            refine go_getI lf12_230 rfl hx.o dX12_tellLaw_100 ?_
            rw [h.fa]
            refine gz_ne (by omega) (tgt := 110) dX12_tellLaw_103 (by decide) (fun h103 => ?_) (fun h103 => ?_)
            · skip
              have hf3 : (gTk (kG B n z) 31 (gS (kG B n z) (gTk (kG B n z) 11 s1))).1 ≠ 0 := by omega
              have hG8 : (gS (kG B n z) (gTk (kG B n z) 31 (gS (kG B n z) (gTk (kG B n z) 11 s1)))) = (gTk (kG B n z) 31 (gS (kG B n z) (gTk (kG B n z) 11 s1))) := gSum_f hf3
              have h : XB c0 B n z m7 m7 (gS (kG B n z) (gTk (kG B n z) 31 (gS (kG B n z) (gTk (kG B n z) 11 s1)))) W5 D5 := by rw [hG8]; exact h
              obtain ⟨D8, hD8⟩ : ∃ x, x = D5 := ⟨_, rfl⟩
              rw [← hD8] at h
              have l8 : D8.length + W5.length ≤ 410 := by rw [hD8]; exact l5
              have q8 : ∀ q, (gS (kG B n z) (gTk (kG B n z) 31 (gS (kG B n z) (gTk (kG B n z) 11 s1)))) = (0, q) → W5 = [] ∧ D8 = D5 ++ suC (kG B n z) (vG B n z) (gTk (kG B n z) 31 (gS (kG B n z) (gTk (kG B n z) 11 s1))).2 q ∧ gI m7 274 12 = nI 0 ∧ D8.length ≤ q := fun q hq => by
                rw [hG8] at hq
                rw [hq] at hf3
                exact absurd rfl hf3
              refine go_aload_n (q := 0) (i := 0) rfl rfl dX12_tellLaw_110 ?_
              refine go_bipush (v := nI 32) (by decide) dX12_tellLaw_111 ?_
              refine go_callV okmX12_must lmX12_296 ⟨nle rfl, nle rfl⟩ hx.o ⟨by decide, rfl⟩ (ex_must h.x h.t h.g (k := 12) (by decide)) npmX12_must rfl (nle rfl) ⟨nle rfl, nle rfl⟩ dX12_tellLaw_113 ?_
              rintro _ m9 ⟨rfl, f1, f2⟩
              have h := (h.fq f1 f2).self
              have hx := h.x
              have hs9 := h.g.2.2.2.1
              have oq := f2.2 12 (by decide) (by decide) (by decide)
              have tt := tt.tr (f2.fr (c0 := c0)).ft
              have a44 := ((f2.fr (c0 := c0)).2.1 44 (by decide) (by decide) (by decide) (by decide) (by decide) (by decide)).trans a44
              have r5 := (congrFun ((f2.fr (c0 := c0)).1.at (x := 305) (by decide)) (b + i)).trans r5
              have r6 := (congrFun ((f2.fr (c0 := c0)).1.at (x := 306) (by decide)) (b + i)).trans r6
              have r7 := (congrFun ((f2.fr (c0 := c0)).1.at (x := 307) (by decide)) (b + i)).trans r7
              have zk : (gTk (kG B n z) 12 (gS (kG B n z) (gTk (kG B n z) 31 (gS (kG B n z) (gTk (kG B n z) 11 s1))))).1 = 0 → gI m9 274 12 = nI 0 ∧ D8.length ≤ (gTk (kG B n z) 12 (gS (kG B n z) (gTk (kG B n z) 31 (gS (kG B n z) (gTk (kG B n z) 11 s1))))).2 := fun w => by
                obtain ⟨w1, -, -, w4⟩ := gTk_z w
                obtain ⟨-, -, x3, x4⟩ := q8 _ (pr_z w1)
                rw [w4]
                exact ⟨oq.trans x3, by show D8.length ≤ (gS (kG B n z) (gTk (kG B n z) 31 (gS (kG B n z) (gTk (kG B n z) 11 s1)))).2 + 1; omega⟩
              refine go_c0 ?_
              refine go_aload_n (q := 0) (i := 0) rfl rfl dX12_tellLaw_116 ?_
              refine go_callV okmX12_term lmX12_341 ⟨nle rfl, nle rfl⟩ hx.o ⟨by decide, rfl⟩ (ex_term2 (lo := b + i) (hi := (130 * sd + 130)) (kk := (4 * sd + k)) hV h (fun q => (zk q).1) (fun q => (zk q).2) (by omega) a44 (by omega) ⟨Nat.le_refl _, by omega⟩) npmX12_term rfl (nle rfl) ⟨nle rfl, nle rfl⟩ dX12_tellLaw_117 ?_
              rintro _ m10 ⟨rfl, W10, D10, h, t10, a44, e8, e9, e5, e6, e7, l10, -, q10⟩
              have hx := h.x
              have tt := tt.tr t10
              have r5 := (congrFun e5 (b + i)).trans r5
              have r6 := (congrFun e6 (b + i)).trans r6
              have r7 := (congrFun e7 (b + i)).trans r7
              have r8 := (congrFun e8 (b + i)).trans upd_same
              have r9 := (congrFun e9 (b + i)).trans upd_same
              refine go_c0 ?_
              refine go_aload_n (q := 0) (i := 0) rfl rfl dX12_tellLaw_120 ?_
              refine go_bipush (v := nI 33) (by decide) dX12_tellLaw_121 ?_
              refine go_callV okmX12_must lmX12_296 ⟨nle rfl, nle rfl⟩ hx.o ⟨by decide, rfl⟩ (ex_must h.x h.t h.g (k := 13) (by decide)) npmX12_must rfl (nle rfl) ⟨nle rfl, nle rfl⟩ dX12_tellLaw_123 ?_
              rintro _ m11 ⟨rfl, f1, f2⟩
              have h := (h.fq f1 f2).self
              have hx := h.x
              have oq := f2.2 12 (by decide) (by decide) (by decide)
              have tt := tt.tr (f2.fr (c0 := c0)).ft
              have a44 := (f2.2 44 (by decide) (by decide) (by decide)).trans a44
              have r5 := (congrFun (f2.1.at (x := 305) (by decide)) (b + i)).trans r5
              have r6 := (congrFun (f2.1.at (x := 306) (by decide)) (b + i)).trans r6
              have r7 := (congrFun (f2.1.at (x := 307) (by decide)) (b + i)).trans r7
              have r8 := (congrFun (f2.1.at (x := 308) (by decide)) (b + i)).trans r8
              have r9 := (congrFun (f2.1.at (x := 309) (by decide)) (b + i)).trans r9
              refine go_c0 ?_
              refine go_goto (tgt := 12) dX12_tellLaw_126 (by decide) ?_
              have hIf : gIf (kG B n z) (i + 1) s1 = (gTk (kG B n z) 13 (gS (kG B n z) (gTk (kG B n z) 12 (gS (kG B n z) (gTk (kG B n z) 31 (gS (kG B n z) (gTk (kG B n z) 11 s1))))))) := by unfold gIf; rw [if_neg (by omega)]
              rw [show gLE (kG B n z) (nf + 1) (i + 1) s1 = gLE (kG B n z) nf (i + 1 + 1) (gIf (kG B n z) (i + 1) s1) from by show gTk _ 25 (gS _ (gIfs _ _ _ _)) = _; rw [gIfs_yes h0 hk], hIf] at hS
              refine ih (i + 1) m11 _ W10 D10 h a44 (by omega) (hT.tr (tt.mn (by omega) (Nat.le_refl _))) l10 (fun hz => ?_) hS
              have hz2 : (gIf (kG B n z) (i + 1) (0, s1.2)).1 = 0 := by rw [← hps, hIf]; exact hz
              obtain ⟨-, p1, p2, p3, ho, e1, e2, e3⟩ := gIf_i (V := vG B n z) hz2
              rw [← hps, hIf] at e1
              have E1 : (gTk (kG B n z) 11 s1) = (0, s1.2 + 1) := by rw [hps]; exact gTk_ok ho.1 ho.2.1
              have E2 : (gS (kG B n z) (gTk (kG B n z) 11 s1)) = (0, p1) := by rw [E1]; exact ho.2.2.1
              have E3 : (gTk (kG B n z) 31 (gS (kG B n z) (gTk (kG B n z) 11 s1))) = (0, p1 + 1) := by rw [E2]; exact gTk_ok ho.2.2.2.1 ho.2.2.2.2.1
              have E4 : (gS (kG B n z) (gTk (kG B n z) 31 (gS (kG B n z) (gTk (kG B n z) 11 s1)))) = (0, p2) := by rw [E3]; exact ho.2.2.2.2.2.1
              have E5 : (gTk (kG B n z) 12 (gS (kG B n z) (gTk (kG B n z) 31 (gS (kG B n z) (gTk (kG B n z) 11 s1))))) = (0, p2 + 1) := by rw [E4]; exact gTk_ok ho.2.2.2.2.2.2.1 ho.2.2.2.2.2.2.2.1
              have E6 : (gS (kG B n z) (gTk (kG B n z) 12 (gS (kG B n z) (gTk (kG B n z) 31 (gS (kG B n z) (gTk (kG B n z) 11 s1)))))) = (0, p3) := by rw [E5]; exact ho.2.2.2.2.2.2.2.2.1
              have s1o := su_ok (V := vG B n z) hV ho.2.2.1 (by have := ho.2.1; omega)
              have s2o := su_ok (V := vG B n z) hV ho.2.2.2.2.2.1 (by have := ho.2.2.2.2.1; omega)
              have s3o := su_ok (V := vG B n z) hV ho.2.2.2.2.2.2.2.2.1 (by have := ho.2.2.2.2.2.2.2.1; omega)
              obtain ⟨-, d5, -, -⟩ := q5 p1 E2
              obtain ⟨-, d8, -, -⟩ := q8 p2 E4
              obtain ⟨-, d10, o10, b10⟩ := q10 p3 E6
              rw [show (gTk (kG B n z) 11 s1).2 = s1.2 + 1 by rw [E1]] at d5
              rw [show (gTk (kG B n z) 31 (gS (kG B n z) (gTk (kG B n z) 11 s1))).2 = p1 + 1 by rw [E3]] at d8
              rw [show (gTk (kG B n z) 12 (gS (kG B n z) (gTk (kG B n z) 31 (gS (kG B n z) (gTk (kG B n z) 11 s1))))).2 = p2 + 1 by rw [E5]] at d10
              have n5 := congrArg List.length d5
              have n8 := congrArg List.length d8
              have n10 := congrArg List.length d10
              rw [List.length_append] at n5 n8 n10
              have hD : D10 = D ++ (suC (kG B n z) (vG B n z) (s1.2 + 1) p1 ++ (suC (kG B n z) (vG B n z) (p1 + 1) p2 ++ suC (kG B n z) (vG B n z) (p2 + 1) p3)) := by
                rw [d10, d8, d5, List.append_assoc, List.append_assoc]
              rw [e1]
              refine ⟨by show D10.length ≤ p3 + 1; omega, oq.trans o10, by show _ ≤ p3 + 1; omega, by show 401 ≤ nf + (p3 + 1); omega, by rw [hD]; exact ex_app y5 _, bs ++ [brP (kG B n z) (vG B n z) s1.2], by rw [ap_len, y6], ?_, fun c hc => ?_, ?_⟩
              · refine get_snoc (P := fun j c => BrA m11 c0 D10 (b + j) c) (fun j c hj => ?_) ?_
                · have hjl := (List.getElem?_eq_some_iff.mp hj).1
                  refine (y7 j c hj).keep (fun r h1 h2 => tt.2.2.2.1 r (b + j) h1 h2 (by omega)) (fun a d ha => by rw [hD]; exact ap_l ha)
                · show BrA m11 c0 D10 (b + bs.length) (brP (kG B n z) (vG B n z) s1.2)
                  rw [y6, e3]
                  refine ⟨r5, D.length, r6, ?_, ?_, ?_, by show D.length + (suC (kG B n z) (vG B n z) (s1.2 + 1) p1).length + (suC (kG B n z) (vG B n z) (p1 + 1) p2).length + (suC (kG B n z) (vG B n z) (p2 + 1) p3).length ≤ 420; omega, fun j c hj => ?_⟩
                  · rw [r7]; show nI (c0 + D5.length) = nI (c0 + D.length + (suC (kG B n z) (vG B n z) (s1.2 + 1) p1).length); congr 1; omega
                  · rw [r8]; show nI (c0 + D8.length) = nI (c0 + D.length + (suC (kG B n z) (vG B n z) (s1.2 + 1) p1).length + (suC (kG B n z) (vG B n z) (p1 + 1) p2).length); congr 1; omega
                  · rw [r9]; show nI (c0 + D10.length) = nI (c0 + D.length + (suC (kG B n z) (vG B n z) (s1.2 + 1) p1).length + (suC (kG B n z) (vG B n z) (p1 + 1) p2).length + (suC (kG B n z) (vG B n z) (p2 + 1) p3).length); congr 1; omega
                  · rw [hD]; exact ap_r hj
              · rcases List.mem_append.mp hc with q | q
                · exact y8 c q
                · rw [List.mem_singleton.mp q, e3]
                  exact ⟨s1o.2.2.2.2, s2o.2.2.2.2, s3o.2.2.2.2⟩
              · rw [y9, laB_11 hk, e2, List.append_assoc]
                rfl
            · skip
              refine go_aload_n (q := 0) (i := 0) rfl rfl dX12_tellLaw_106 ?_
              refine go_callV okmX12_expression lmX12_338 ⟨nle rfl, nle rfl⟩ hx.o ⟨by decide, rfl⟩ (ex_expr hV h (fun q => o7.trans (zk q).1) (fun q => (zk q).2) (by omega)) npmX12_expression rfl (nle rfl) ⟨nle rfl, nle rfl⟩ dX12_tellLaw_107 ?_
              rintro _ m8 ⟨rfl, W8, D8, h, l8, q8⟩
              have c8 := h.f
              have h := h.self
              have hx := h.x
              have tt := tt.tr (c8).ft
              have a44 := ((c8).2.1 44 (by decide) (by decide) (by decide) (by decide) (by decide) (by decide)).trans a44
              have r5 := (congrFun ((c8).1.at (x := 305) (by decide)) (b + i)).trans r5
              have r6 := (congrFun ((c8).1.at (x := 306) (by decide)) (b + i)).trans r6
              have r7 := (congrFun ((c8).1.at (x := 307) (by decide)) (b + i)).trans r7
              refine go_c0 ?_
              refine go_aload_n (q := 0) (i := 0) rfl rfl dX12_tellLaw_110 ?_
              refine go_bipush (v := nI 32) (by decide) dX12_tellLaw_111 ?_
              refine go_callV okmX12_must lmX12_296 ⟨nle rfl, nle rfl⟩ hx.o ⟨by decide, rfl⟩ (ex_must h.x h.t h.g (k := 12) (by decide)) npmX12_must rfl (nle rfl) ⟨nle rfl, nle rfl⟩ dX12_tellLaw_113 ?_
              rintro _ m9 ⟨rfl, f1, f2⟩
              have h := (h.fq f1 f2).self
              have hx := h.x
              have hs9 := h.g.2.2.2.1
              have oq := f2.2 12 (by decide) (by decide) (by decide)
              have tt := tt.tr (f2.fr (c0 := c0)).ft
              have a44 := ((f2.fr (c0 := c0)).2.1 44 (by decide) (by decide) (by decide) (by decide) (by decide) (by decide)).trans a44
              have r5 := (congrFun ((f2.fr (c0 := c0)).1.at (x := 305) (by decide)) (b + i)).trans r5
              have r6 := (congrFun ((f2.fr (c0 := c0)).1.at (x := 306) (by decide)) (b + i)).trans r6
              have r7 := (congrFun ((f2.fr (c0 := c0)).1.at (x := 307) (by decide)) (b + i)).trans r7
              have zk : (gTk (kG B n z) 12 (gS (kG B n z) (gTk (kG B n z) 31 (gS (kG B n z) (gTk (kG B n z) 11 s1))))).1 = 0 → gI m9 274 12 = nI 0 ∧ D8.length ≤ (gTk (kG B n z) 12 (gS (kG B n z) (gTk (kG B n z) 31 (gS (kG B n z) (gTk (kG B n z) 11 s1))))).2 := fun w => by
                obtain ⟨w1, -, -, w4⟩ := gTk_z w
                obtain ⟨-, -, x3, x4⟩ := q8 _ (pr_z w1)
                rw [w4]
                exact ⟨oq.trans x3, by show D8.length ≤ (gS (kG B n z) (gTk (kG B n z) 31 (gS (kG B n z) (gTk (kG B n z) 11 s1)))).2 + 1; omega⟩
              refine go_c0 ?_
              refine go_aload_n (q := 0) (i := 0) rfl rfl dX12_tellLaw_116 ?_
              refine go_callV okmX12_term lmX12_341 ⟨nle rfl, nle rfl⟩ hx.o ⟨by decide, rfl⟩ (ex_term2 (lo := b + i) (hi := (130 * sd + 130)) (kk := (4 * sd + k)) hV h (fun q => (zk q).1) (fun q => (zk q).2) (by omega) a44 (by omega) ⟨Nat.le_refl _, by omega⟩) npmX12_term rfl (nle rfl) ⟨nle rfl, nle rfl⟩ dX12_tellLaw_117 ?_
              rintro _ m10 ⟨rfl, W10, D10, h, t10, a44, e8, e9, e5, e6, e7, l10, -, q10⟩
              have hx := h.x
              have tt := tt.tr t10
              have r5 := (congrFun e5 (b + i)).trans r5
              have r6 := (congrFun e6 (b + i)).trans r6
              have r7 := (congrFun e7 (b + i)).trans r7
              have r8 := (congrFun e8 (b + i)).trans upd_same
              have r9 := (congrFun e9 (b + i)).trans upd_same
              refine go_c0 ?_
              refine go_aload_n (q := 0) (i := 0) rfl rfl dX12_tellLaw_120 ?_
              refine go_bipush (v := nI 33) (by decide) dX12_tellLaw_121 ?_
              refine go_callV okmX12_must lmX12_296 ⟨nle rfl, nle rfl⟩ hx.o ⟨by decide, rfl⟩ (ex_must h.x h.t h.g (k := 13) (by decide)) npmX12_must rfl (nle rfl) ⟨nle rfl, nle rfl⟩ dX12_tellLaw_123 ?_
              rintro _ m11 ⟨rfl, f1, f2⟩
              have h := (h.fq f1 f2).self
              have hx := h.x
              have oq := f2.2 12 (by decide) (by decide) (by decide)
              have tt := tt.tr (f2.fr (c0 := c0)).ft
              have a44 := (f2.2 44 (by decide) (by decide) (by decide)).trans a44
              have r5 := (congrFun (f2.1.at (x := 305) (by decide)) (b + i)).trans r5
              have r6 := (congrFun (f2.1.at (x := 306) (by decide)) (b + i)).trans r6
              have r7 := (congrFun (f2.1.at (x := 307) (by decide)) (b + i)).trans r7
              have r8 := (congrFun (f2.1.at (x := 308) (by decide)) (b + i)).trans r8
              have r9 := (congrFun (f2.1.at (x := 309) (by decide)) (b + i)).trans r9
              refine go_c0 ?_
              refine go_goto (tgt := 12) dX12_tellLaw_126 (by decide) ?_
              have hIf : gIf (kG B n z) (i + 1) s1 = (gTk (kG B n z) 13 (gS (kG B n z) (gTk (kG B n z) 12 (gS (kG B n z) (gTk (kG B n z) 31 (gS (kG B n z) (gTk (kG B n z) 11 s1))))))) := by unfold gIf; rw [if_neg (by omega)]
              rw [show gLE (kG B n z) (nf + 1) (i + 1) s1 = gLE (kG B n z) nf (i + 1 + 1) (gIf (kG B n z) (i + 1) s1) from by show gTk _ 25 (gS _ (gIfs _ _ _ _)) = _; rw [gIfs_yes h0 hk], hIf] at hS
              refine ih (i + 1) m11 _ W10 D10 h a44 (by omega) (hT.tr (tt.mn (by omega) (Nat.le_refl _))) l10 (fun hz => ?_) hS
              have hz2 : (gIf (kG B n z) (i + 1) (0, s1.2)).1 = 0 := by rw [← hps, hIf]; exact hz
              obtain ⟨-, p1, p2, p3, ho, e1, e2, e3⟩ := gIf_i (V := vG B n z) hz2
              rw [← hps, hIf] at e1
              have E1 : (gTk (kG B n z) 11 s1) = (0, s1.2 + 1) := by rw [hps]; exact gTk_ok ho.1 ho.2.1
              have E2 : (gS (kG B n z) (gTk (kG B n z) 11 s1)) = (0, p1) := by rw [E1]; exact ho.2.2.1
              have E3 : (gTk (kG B n z) 31 (gS (kG B n z) (gTk (kG B n z) 11 s1))) = (0, p1 + 1) := by rw [E2]; exact gTk_ok ho.2.2.2.1 ho.2.2.2.2.1
              have E4 : (gS (kG B n z) (gTk (kG B n z) 31 (gS (kG B n z) (gTk (kG B n z) 11 s1)))) = (0, p2) := by rw [E3]; exact ho.2.2.2.2.2.1
              have E5 : (gTk (kG B n z) 12 (gS (kG B n z) (gTk (kG B n z) 31 (gS (kG B n z) (gTk (kG B n z) 11 s1))))) = (0, p2 + 1) := by rw [E4]; exact gTk_ok ho.2.2.2.2.2.2.1 ho.2.2.2.2.2.2.2.1
              have E6 : (gS (kG B n z) (gTk (kG B n z) 12 (gS (kG B n z) (gTk (kG B n z) 31 (gS (kG B n z) (gTk (kG B n z) 11 s1)))))) = (0, p3) := by rw [E5]; exact ho.2.2.2.2.2.2.2.2.1
              have s1o := su_ok (V := vG B n z) hV ho.2.2.1 (by have := ho.2.1; omega)
              have s2o := su_ok (V := vG B n z) hV ho.2.2.2.2.2.1 (by have := ho.2.2.2.2.1; omega)
              have s3o := su_ok (V := vG B n z) hV ho.2.2.2.2.2.2.2.2.1 (by have := ho.2.2.2.2.2.2.2.1; omega)
              obtain ⟨-, d5, -, -⟩ := q5 p1 E2
              obtain ⟨-, d8, -, -⟩ := q8 p2 E4
              obtain ⟨-, d10, o10, b10⟩ := q10 p3 E6
              rw [show (gTk (kG B n z) 11 s1).2 = s1.2 + 1 by rw [E1]] at d5
              rw [show (gTk (kG B n z) 31 (gS (kG B n z) (gTk (kG B n z) 11 s1))).2 = p1 + 1 by rw [E3]] at d8
              rw [show (gTk (kG B n z) 12 (gS (kG B n z) (gTk (kG B n z) 31 (gS (kG B n z) (gTk (kG B n z) 11 s1))))).2 = p2 + 1 by rw [E5]] at d10
              have n5 := congrArg List.length d5
              have n8 := congrArg List.length d8
              have n10 := congrArg List.length d10
              rw [List.length_append] at n5 n8 n10
              have hD : D10 = D ++ (suC (kG B n z) (vG B n z) (s1.2 + 1) p1 ++ (suC (kG B n z) (vG B n z) (p1 + 1) p2 ++ suC (kG B n z) (vG B n z) (p2 + 1) p3)) := by
                rw [d10, d8, d5, List.append_assoc, List.append_assoc]
              rw [e1]
              refine ⟨by show D10.length ≤ p3 + 1; omega, oq.trans o10, by show _ ≤ p3 + 1; omega, by show 401 ≤ nf + (p3 + 1); omega, by rw [hD]; exact ex_app y5 _, bs ++ [brP (kG B n z) (vG B n z) s1.2], by rw [ap_len, y6], ?_, fun c hc => ?_, ?_⟩
              · refine get_snoc (P := fun j c => BrA m11 c0 D10 (b + j) c) (fun j c hj => ?_) ?_
                · have hjl := (List.getElem?_eq_some_iff.mp hj).1
                  refine (y7 j c hj).keep (fun r h1 h2 => tt.2.2.2.1 r (b + j) h1 h2 (by omega)) (fun a d ha => by rw [hD]; exact ap_l ha)
                · show BrA m11 c0 D10 (b + bs.length) (brP (kG B n z) (vG B n z) s1.2)
                  rw [y6, e3]
                  refine ⟨r5, D.length, r6, ?_, ?_, ?_, by show D.length + (suC (kG B n z) (vG B n z) (s1.2 + 1) p1).length + (suC (kG B n z) (vG B n z) (p1 + 1) p2).length + (suC (kG B n z) (vG B n z) (p2 + 1) p3).length ≤ 420; omega, fun j c hj => ?_⟩
                  · rw [r7]; show nI (c0 + D5.length) = nI (c0 + D.length + (suC (kG B n z) (vG B n z) (s1.2 + 1) p1).length); congr 1; omega
                  · rw [r8]; show nI (c0 + D8.length) = nI (c0 + D.length + (suC (kG B n z) (vG B n z) (s1.2 + 1) p1).length + (suC (kG B n z) (vG B n z) (p1 + 1) p2).length); congr 1; omega
                  · rw [r9]; show nI (c0 + D10.length) = nI (c0 + D.length + (suC (kG B n z) (vG B n z) (s1.2 + 1) p1).length + (suC (kG B n z) (vG B n z) (p1 + 1) p2).length + (suC (kG B n z) (vG B n z) (p2 + 1) p3).length); congr 1; omega
                  · rw [hD]; exact ap_r hj
              · rcases List.mem_append.mp hc with q | q
                · exact y8 c q
                · rw [List.mem_singleton.mp q, e3]
                  exact ⟨s1o.2.2.2.2, s2o.2.2.2.2, s3o.2.2.2.2⟩
              · rw [y9, laB_11 hk, e2, List.append_assoc]
                rfl
        · skip
          refine go_aload_n (q := 0) (i := 0) rfl rfl dX12_tellLaw_12 ?_
          refine go_getI lf12_230 rfl hx.o dX12_tellLaw_13 ?_
          rw [h.fa, h0]
          refine gz_ne (by omega) (tgt := 129) dX12_tellLaw_16 (by decide) (fun h16 => by exfalso; omega) (fun h16 => ?_)
          refine go_aload_n (q := 0) (i := 0) rfl rfl dX12_tellLaw_19 ?_
          refine go_bipush (v := nI 31) (by decide) dX12_tellLaw_20 ?_
          refine go_callV okmX12_is lmX12_248 ⟨nle rfl, nle rfl⟩ hx.o ⟨by decide, rfl⟩ (ex_is h.x h.t h.g (k := 11) (by decide)) npmX12_is rfl (nle rfl) ⟨nle rfl, nle rfl⟩ dX12_tellLaw_22 ?_
          rintro _ mz ⟨rfl, hz⟩
          subst mz
          rw [if_neg (fun q => hk q.2)]
          refine go_c1 ?_
          refine gz_eq (by omega) (tgt := 129) dX12_tellLaw_25 (by decide) (fun h25 => ?_) (fun h25 => by exfalso; omega)
          exact ex_law129 hV hsd hs2 hk4 hbl hbu h h44 hi4 hT hB2 (fun _ => y2) (fun _ => y1) (by rw [← hS]; show _ = gTk _ 25 (gS _ (gIfs _ _ _ _)); rw [gIfs_no hk]) hk hL
      · skip
        refine go_aload_n (q := 0) (i := 0) rfl rfl dX12_tellLaw_12 ?_
        refine go_getI lf12_230 rfl hx.o dX12_tellLaw_13 ?_
        rw [h.fa]
        refine gz_ne (by omega) (tgt := 129) dX12_tellLaw_16 (by decide) (fun h16 => ?_) (fun h16 => by exfalso; omega)
        exact ex_law129f (nf := 0) hV hsd hs2 hk4 hbl hbu h h44 hi4 hT hB2 h0 (by rw [← hS, gLE_f h0, show gS (kG B n z) s1 = s1 from gSum_f h0, gTk_f h0])
  have hx := h.x
  refine go_aload_n (q := 0) (i := 0) rfl rfl dX12_tellLaw_0 ?_
  refine go_iconst (v := nI 5) (by decide) dX12_tellLaw_1 ?_
  refine go_callV okmX12_must lmX12_296 ⟨nle rfl, nle rfl⟩ hx.o ⟨by decide, rfl⟩ (ex_must h.x h.t h.g (k := 26) (by decide)) npmX12_must rfl (nle rfl) ⟨nle rfl, nle rfl⟩ dX12_tellLaw_2 ?_
  rintro _ m2 ⟨rfl, f1, f2⟩
  have h2 := (h.fq f1 f2).self
  have hx := h2.x
  have a44 : gI m2 274 44 = nI b := (f2.2 44 (by decide) (by decide) (by decide)).trans hb
  refine go_c0 ?_
  refine go_aload_n (q := 0) (i := 0) rfl rfl dX12_tellLaw_5 ?_
  refine go_getI lf12_269 rfl hx.o dX12_tellLaw_6 ?_
  rw [a44]
  refine go_istore_n (q := 2) (i := 2) rfl dX12_tellLaw_9 (nle rfl) (nle rfl) ?_
  refine go_iconst (v := nI 0) (by decide) dX12_tellLaw_10 ?_
  refine go_istore_n (q := 3) (i := 3) rfl dX12_tellLaw_11 (nle rfl) (nle rfl) ?_
  refine key 400 0 m2 _ W C h2 a44 (Nat.zero_le _) f2.fr.ft hB2 (fun q => ?_) rfl
  obtain ⟨g1, g2, g3, g4⟩ := gTk_z q
  have := hB g1
  have := hb4 g1
  have e1 : (gTk (kG B n z) 26 s).2 = s.2 + 1 := by rw [g4]
  refine ⟨by omega, (f2.2 12 (by decide) (by decide) (by decide)).trans (hop g1), by omega, by omega, ⟨[], (List.append_nil _).symm⟩, [], rfl, fun j c hj => (by cases hj), fun c hc => (by cases hc), ?_⟩
  rw [e1]
  rfl
