theorem FG.fm {sd : Nat} {m m' : Me} (c : Fm m m') (k : ∀ k, k ≠ 10 → gI m' 274 k = gI m 274 k) : FG sd m m' := ⟨c.mn (fun x h => by omega) (fun x h => Or.inl h), fun j a => k j (by omega), fun r j a b _ => by rw [c.at (by omega)]⟩
theorem FG.fy {sd : Nat} {m m' : Me} (c : FY m m') (f : FS sd m m') : FG sd m m' := ⟨c.mn (fun x h => by omega) (fun x h => h.elim), fun j a => by rw [c.at (show ¬ (284 ≤ 274 ∧ 274 ≤ 304) by decide)], f⟩
theorem FG.tx {sd : Nat} {m m' : Me} {r : Nat → Int32} (c : FG sd m m') : FG sd m (sI m' 276 r) := ⟨Fx.I c.1 (by omega), fun j a => by rw [gI_n (by decide)]; exact c.2.1 j a, fun r j a b n => by rw [gI_n (by omega)]; exact c.2.2 r j a b n⟩
theorem TkR.fy {m m' : Me} {B : Nat → Nat} {n z : Nat} (c : FY m m') (h : TkR m B n z) : TkR m' B n z := ⟨h.1, h.2.1, h.2.2.1, fun j hj => by rw [c.at (by decide), c.at (by decide), c.at (by decide), c.aj (fun a => a)]; exact h.2.2.2 j hj⟩
set_option maxRecDepth 100000 in
set_option maxHeartbeats 8000000 in
theorem ex_read {m : Me} {B : Nat → Nat} {n z lv sd : Nat} (hx : Wf12 m.1 (gR m)) (hn : n ≤ 2000) (h2 : gI m 274 2 = nI n) (hb : ∀ i, i < n → gI m 275 i &&& nI 255 = nI (B i)) (h8 : B8 B) (hkw : ∀ k, k < 23 → gJ m 281 k = kwM k) (h18 : gI m 274 18 = nI lv) (hlv : lv < 2) (hsd : sd = 1 - lv) (hwv : WvR m) (hz : zOk B n z) : Ev mX12_read [.ref 274] m (fun o m' => o = some (.int (nI (rdW B n z).1)) ∧ gI m' 274 17 = rdP B n z ∧ gI m' 274 2 = nI 0 ∧ WvR m' ∧ ((rdW B n z).1 ≠ 0 → FG sd m m') ∧ ((rdW B n z).1 = 0 → RrN m m' sd (plD (rdF B n z).1))) := by
  refine ⟨plmX12_read, nle rfl, ?_⟩
  have hx0 := hx
  have key : ∀ i, i ≤ n → ∀ (m2 : Me), FG sd m m2 → gI m2 274 4 = nI n → (∀ j, j < i → gI m2 276 j &&& nI 255 = nI (B j)) → gI m2 274 18 = nI lv → gI m2 274 54 = gI m 274 54 → gI m2 312 = gI m 312 → Go mX12_read (fun o m' => o = some (.int (nI (rdW B n z).1)) ∧ gI m' 274 17 = rdP B n z ∧ gI m' 274 2 = nI 0 ∧ WvR m' ∧ ((rdW B n z).1 ≠ 0 → FG sd m m') ∧ ((rdW B n z).1 = 0 → RrN m m' sd (plD (rdF B n z).1))) 10 [some (.ref 274), some (.int (nI i))] [] m2 0 0 := by
    refine loop_up n ?_ ?_
    · intro m2 fg v4 ft v18 v54 v312
      have hx : Wf12 m2.1 (gR m2) := fg.wf hx
      refine go_iload_n (q := 1) (i := 1) rfl rfl dX12_read_10 ?_
      refine go_aload_n (q := 0) (i := 0) rfl rfl dX12_read_11 ?_
      refine go_getI lf12_199 rfl hx.o dX12_read_12 ?_
      rw [v4]
      refine gn_ge (by omega) (by omega) (tgt := 36) dX12_read_15 (by decide) (fun h15 => ?_) (fun h15 => by exfalso; omega)
      refine go_aload_n (q := 0) (i := 0) rfl rfl dX12_read_36 ?_
      refine go_iconst (v := nI 0) (by decide) dX12_read_37 ?_
      refine go_putI lf12_193 rfl (Or.inl rfl) hx.o dX12_read_38 ?_
      generalize hmE : sI m2 274 (upd (gI m2 274) 2 (nI 0)) = m3
      have fg : FG sd m m3 := by rw [← hmE]; exact fg.p (by decide)
      have hx : Wf12 m3.1 (gR m3) := by rw [← hmE]; exact hx
      have v2 : gI m3 274 2 = nI 0 := by rw [← hmE, gI_s, upd_same]
      have v18 : gI m3 274 18 = nI lv := by rw [← hmE, gI_s, upd_ne (by decide)]; exact v18
      have v54 : gI m3 274 54 = gI m 274 54 := by rw [← hmE, gI_s, upd_ne (by decide)]; exact v54
      have v4 : gI m3 274 4 = nI n := by rw [← hmE, gI_s, upd_ne (by decide)]; exact v4
      have v312 : gI m3 312 = gI m 312 := by rw [← hmE, gI_n (by decide)]; exact v312
      have ft : ∀ j, j < n → gI m3 276 j &&& nI 255 = nI (B j) := fun j hj => by rw [← hmE, gI_n (by decide)]; exact ft j hj
      clear hmE
      refine go_aload_n (q := 0) (i := 0) rfl rfl dX12_read_41 ?_
      refine go_callV okmX12_cut lmX12_254 ⟨nle rfl, nle rfl⟩ hx.o ⟨by decide, rfl⟩ (ex_cut hx ⟨hn, v4, ft, h8⟩ (fun k hk => by rw [fg.1.aj (show ¬ (281 = 280 ∨ 281 = 282) by decide)]; exact hkw k hk)) npmX12_cut rfl (nle rfl) ⟨nle rfl, nle rfl⟩ dX12_read_42 ?_
      rintro _ m4 ⟨rfl, c4, k4, y, htk, y1, y2, y3, y4⟩
      have hT : TkR m4 B n z := TkR.of htk hz.1 hz.2.1 hz.2.2.1 hz.2.2.2 y1 y4
      have fg : FG sd m m4 := fg.tr (FG.fm c4 k4)
      have hx : Wf12 m4.1 (gR m4) := c4.to (F := Wf12) hx
      have v312 : gI m4 312 = gI m 312 := (c4.at (by decide)).trans v312
      have v18 : gI m4 274 18 = nI lv := (k4 18 (by decide)).trans v18
      have v54 : gI m4 274 54 = gI m 274 54 := (k4 54 (by decide)).trans v54
      have v2 : gI m4 274 2 = nI 0 := (k4 2 (by decide)).trans v2
      refine go_c0 ?_
      refine go_aload_n (q := 0) (i := 0) rfl rfl dX12_read_45 ?_
      refine go_iconst (v := nI 0) (by decide) dX12_read_46 ?_
      refine go_putI lf12_233 rfl (Or.inl rfl) hx.o dX12_read_47 ?_
      generalize hmE : sI m4 274 (upd (gI m4 274) 11 (nI 0)) = m5
      have fg : FG sd m m5 := by rw [← hmE]; exact fg.p (by decide)
      have hx : Wf12 m5.1 (gR m5) := by rw [← hmE]; exact hx
      have v11 : gI m5 274 11 = nI 0 := by rw [← hmE, gI_s, upd_same]
      have v18 : gI m5 274 18 = nI lv := by rw [← hmE, gI_s, upd_ne (by decide)]; exact v18
      have v54 : gI m5 274 54 = gI m 274 54 := by rw [← hmE, gI_s, upd_ne (by decide)]; exact v54
      have v2 : gI m5 274 2 = nI 0 := by rw [← hmE, gI_s, upd_ne (by decide)]; exact v2
      have v312 : gI m5 312 = gI m 312 := by rw [← hmE, gI_n (by decide)]; exact v312
      have hT : TkR m5 B n z := by rw [← hmE]; exact hT.p
      clear hmE
      refine go_aload_n (q := 0) (i := 0) rfl rfl dX12_read_50 ?_
      refine go_iconst (v := nI 0) (by decide) dX12_read_51 ?_
      refine go_putI lf12_257 rfl (Or.inl rfl) hx.o dX12_read_52 ?_
      generalize hmE : sI m5 274 (upd (gI m5 274) 12 (nI 0)) = m6
      have fg : FG sd m m6 := by rw [← hmE]; exact fg.p (by decide)
      have hx : Wf12 m6.1 (gR m6) := by rw [← hmE]; exact hx
      have v12 : gI m6 274 12 = nI 0 := by rw [← hmE, gI_s, upd_same]
      have v18 : gI m6 274 18 = nI lv := by rw [← hmE, gI_s, upd_ne (by decide)]; exact v18
      have v54 : gI m6 274 54 = gI m 274 54 := by rw [← hmE, gI_s, upd_ne (by decide)]; exact v54
      have v2 : gI m6 274 2 = nI 0 := by rw [← hmE, gI_s, upd_ne (by decide)]; exact v2
      have v11 : gI m6 274 11 = nI 0 := by rw [← hmE, gI_s, upd_ne (by decide)]; exact v11
      have v312 : gI m6 312 = gI m 312 := by rw [← hmE, gI_n (by decide)]; exact v312
      have hT : TkR m6 B n z := by rw [← hmE]; exact hT.p
      clear hmE
      refine go_aload_n (q := 0) (i := 0) rfl rfl dX12_read_55 ?_
      refine go_iconst (v := nI 0) (by decide) dX12_read_56 ?_
      refine go_putI lf12_230 rfl (Or.inl rfl) hx.o dX12_read_57 ?_
      generalize hmE : sI m6 274 (upd (gI m6 274) 13 (nI 0)) = m7
      have fg : FG sd m m7 := by rw [← hmE]; exact fg.p (by decide)
      have hx : Wf12 m7.1 (gR m7) := by rw [← hmE]; exact hx
      have v13 : gI m7 274 13 = nI 0 := by rw [← hmE, gI_s, upd_same]
      have v18 : gI m7 274 18 = nI lv := by rw [← hmE, gI_s, upd_ne (by decide)]; exact v18
      have v54 : gI m7 274 54 = gI m 274 54 := by rw [← hmE, gI_s, upd_ne (by decide)]; exact v54
      have v2 : gI m7 274 2 = nI 0 := by rw [← hmE, gI_s, upd_ne (by decide)]; exact v2
      have v11 : gI m7 274 11 = nI 0 := by rw [← hmE, gI_s, upd_ne (by decide)]; exact v11
      have v12 : gI m7 274 12 = nI 0 := by rw [← hmE, gI_s, upd_ne (by decide)]; exact v12
      have v312 : gI m7 312 = gI m 312 := by rw [← hmE, gI_n (by decide)]; exact v312
      have hT : TkR m7 B n z := by rw [← hmE]; exact hT.p
      clear hmE
      refine go_aload_n (q := 0) (i := 0) rfl rfl dX12_read_60 ?_
      refine go_iconst (v := nI 0) (by decide) dX12_read_61 ?_
      refine go_putI lf12_239 rfl (Or.inl rfl) hx.o dX12_read_62 ?_
      generalize hmE : sI m7 274 (upd (gI m7 274) 15 (nI 0)) = m8
      have fg : FG sd m m8 := by rw [← hmE]; exact fg.p (by decide)
      have hx : Wf12 m8.1 (gR m8) := by rw [← hmE]; exact hx
      have v15 : gI m8 274 15 = nI 0 := by rw [← hmE, gI_s, upd_same]
      have v18 : gI m8 274 18 = nI lv := by rw [← hmE, gI_s, upd_ne (by decide)]; exact v18
      have v54 : gI m8 274 54 = gI m 274 54 := by rw [← hmE, gI_s, upd_ne (by decide)]; exact v54
      have v2 : gI m8 274 2 = nI 0 := by rw [← hmE, gI_s, upd_ne (by decide)]; exact v2
      have v11 : gI m8 274 11 = nI 0 := by rw [← hmE, gI_s, upd_ne (by decide)]; exact v11
      have v12 : gI m8 274 12 = nI 0 := by rw [← hmE, gI_s, upd_ne (by decide)]; exact v12
      have v13 : gI m8 274 13 = nI 0 := by rw [← hmE, gI_s, upd_ne (by decide)]; exact v13
      have v312 : gI m8 312 = gI m 312 := by rw [← hmE, gI_n (by decide)]; exact v312
      have hT : TkR m8 B n z := by rw [← hmE]; exact hT.p
      clear hmE
      refine go_aload_n (q := 0) (i := 0) rfl rfl dX12_read_65 ?_
      refine go_iconst (v := nI 1) (by decide) dX12_read_66 ?_
      refine go_aload_n (q := 0) (i := 0) rfl rfl dX12_read_67 ?_
      refine go_getI lf12_260 rfl hx.o dX12_read_68 ?_
      rw [v18]
      refine gn_sub (by omega) dX12_read_71 ?_
      rw [show 1 - lv = sd from hsd.symm]
      refine go_putI lf12_263 rfl (Or.inl rfl) hx.o dX12_read_72 ?_
      generalize hmE : sI m8 274 (upd (gI m8 274) 19 (nI sd)) = m9
      have fg : FG sd m m9 := by rw [← hmE]; exact fg.p (by decide)
      have hx : Wf12 m9.1 (gR m9) := by rw [← hmE]; exact hx
      have v19 : gI m9 274 19 = nI sd := by rw [← hmE, gI_s, upd_same]
      have v18 : gI m9 274 18 = nI lv := by rw [← hmE, gI_s, upd_ne (by decide)]; exact v18
      have v54 : gI m9 274 54 = gI m 274 54 := by rw [← hmE, gI_s, upd_ne (by decide)]; exact v54
      have v2 : gI m9 274 2 = nI 0 := by rw [← hmE, gI_s, upd_ne (by decide)]; exact v2
      have v11 : gI m9 274 11 = nI 0 := by rw [← hmE, gI_s, upd_ne (by decide)]; exact v11
      have v12 : gI m9 274 12 = nI 0 := by rw [← hmE, gI_s, upd_ne (by decide)]; exact v12
      have v13 : gI m9 274 13 = nI 0 := by rw [← hmE, gI_s, upd_ne (by decide)]; exact v13
      have v15 : gI m9 274 15 = nI 0 := by rw [← hmE, gI_s, upd_ne (by decide)]; exact v15
      have v312 : gI m9 312 = gI m 312 := by rw [← hmE, gI_n (by decide)]; exact v312
      have hT : TkR m9 B n z := by rw [← hmE]; exact hT.p
      clear hmE
      refine go_aload_n (q := 0) (i := 0) rfl rfl dX12_read_75 ?_
      refine go_iconst (v := nI 0) (by decide) dX12_read_76 ?_
      refine go_putI lf12_266 rfl (Or.inl rfl) hx.o dX12_read_77 ?_
      generalize hmE : sI m9 274 (upd (gI m9 274) 20 (nI 0)) = m10
      have fg : FG sd m m10 := by rw [← hmE]; exact fg.p (by decide)
      have hx : Wf12 m10.1 (gR m10) := by rw [← hmE]; exact hx
      have v20 : gI m10 274 20 = nI 0 := by rw [← hmE, gI_s, upd_same]
      have v18 : gI m10 274 18 = nI lv := by rw [← hmE, gI_s, upd_ne (by decide)]; exact v18
      have v54 : gI m10 274 54 = gI m 274 54 := by rw [← hmE, gI_s, upd_ne (by decide)]; exact v54
      have v2 : gI m10 274 2 = nI 0 := by rw [← hmE, gI_s, upd_ne (by decide)]; exact v2
      have v11 : gI m10 274 11 = nI 0 := by rw [← hmE, gI_s, upd_ne (by decide)]; exact v11
      have v12 : gI m10 274 12 = nI 0 := by rw [← hmE, gI_s, upd_ne (by decide)]; exact v12
      have v13 : gI m10 274 13 = nI 0 := by rw [← hmE, gI_s, upd_ne (by decide)]; exact v13
      have v15 : gI m10 274 15 = nI 0 := by rw [← hmE, gI_s, upd_ne (by decide)]; exact v15
      have v19 : gI m10 274 19 = nI sd := by rw [← hmE, gI_s, upd_ne (by decide)]; exact v19
      have v312 : gI m10 312 = gI m 312 := by rw [← hmE, gI_n (by decide)]; exact v312
      have hT : TkR m10 B n z := by rw [← hmE]; exact hT.p
      clear hmE
      refine go_aload_n (q := 0) (i := 0) rfl rfl dX12_read_80 ?_
      refine go_aload_n (q := 0) (i := 0) rfl rfl dX12_read_81 ?_
      refine go_getI lf12_263 rfl hx.o dX12_read_82 ?_
      rw [v19]
      refine go_callV okmX12_plain lmX12_179 ⟨nle rfl, nle rfl⟩ hx.o ⟨by decide, rfl⟩ (ex_plain hx (by omega)) npmX12_plain rfl (nle rfl) ⟨nle rfl, nle rfl⟩ dX12_read_85 ?_
      rintro _ m11 ⟨rfl, hz1, hz2, c11, d11⟩
      have hT : TkR m11 B n z := hT.fy c11
      have fg : FG sd m m11 := fg.tr (FG.fy c11 d11)
      have hx : Wf12 m11.1 (gR m11) := c11.to (F := Wf12) hx
      have v312 : gI m11 312 = gI m 312 := (c11.at (by decide)).trans v312
      have v18 : gI m11 274 18 = nI lv := (congrFun (c11.at (show ¬ (284 ≤ 274 ∧ 274 ≤ 304) by decide)) 18).trans v18
      have v54 : gI m11 274 54 = gI m 274 54 := (congrFun (c11.at (show ¬ (284 ≤ 274 ∧ 274 ≤ 304) by decide)) 54).trans v54
      have v2 : gI m11 274 2 = nI 0 := (congrFun (c11.at (show ¬ (284 ≤ 274 ∧ 274 ≤ 304) by decide)) 2).trans v2
      have v11 : gI m11 274 11 = nI 0 := (congrFun (c11.at (show ¬ (284 ≤ 274 ∧ 274 ≤ 304) by decide)) 11).trans v11
      have v12 : gI m11 274 12 = nI 0 := (congrFun (c11.at (show ¬ (284 ≤ 274 ∧ 274 ≤ 304) by decide)) 12).trans v12
      have v13 : gI m11 274 13 = nI 0 := (congrFun (c11.at (show ¬ (284 ≤ 274 ∧ 274 ≤ 304) by decide)) 13).trans v13
      have v15 : gI m11 274 15 = nI 0 := (congrFun (c11.at (show ¬ (284 ≤ 274 ∧ 274 ≤ 304) by decide)) 15).trans v15
      have v19 : gI m11 274 19 = nI sd := (congrFun (c11.at (show ¬ (284 ≤ 274 ∧ 274 ≤ 304) by decide)) 19).trans v19
      have v20 : gI m11 274 20 = nI 0 := (congrFun (c11.at (show ¬ (284 ≤ 274 ∧ 274 ≤ 304) by decide)) 20).trans v20
      refine go_c0 ?_
      refine go_aload_n (q := 0) (i := 0) rfl rfl dX12_read_88 ?_
      refine go_sipush (v := nI 130) (by decide) dX12_read_89 ?_
      refine go_aload_n (q := 0) (i := 0) rfl rfl dX12_read_92 ?_
      refine go_getI lf12_263 rfl hx.o dX12_read_93 ?_
      rw [v19]
      refine gn_mul dX12_read_96 ?_
      refine go_putI lf12_269 rfl (Or.inl rfl) hx.o dX12_read_97 ?_
      generalize hmE : sI m11 274 (upd (gI m11 274) 44 (nI (130 * sd))) = m12
      have fg : FG sd m m12 := by rw [← hmE]; exact fg.p (by decide)
      have hx : Wf12 m12.1 (gR m12) := by rw [← hmE]; exact hx
      have v44 : gI m12 274 44 = nI (130 * sd) := by rw [← hmE, gI_s, upd_same]
      have v18 : gI m12 274 18 = nI lv := by rw [← hmE, gI_s, upd_ne (by decide)]; exact v18
      have v54 : gI m12 274 54 = gI m 274 54 := by rw [← hmE, gI_s, upd_ne (by decide)]; exact v54
      have v2 : gI m12 274 2 = nI 0 := by rw [← hmE, gI_s, upd_ne (by decide)]; exact v2
      have v11 : gI m12 274 11 = nI 0 := by rw [← hmE, gI_s, upd_ne (by decide)]; exact v11
      have v12 : gI m12 274 12 = nI 0 := by rw [← hmE, gI_s, upd_ne (by decide)]; exact v12
      have v13 : gI m12 274 13 = nI 0 := by rw [← hmE, gI_s, upd_ne (by decide)]; exact v13
      have v15 : gI m12 274 15 = nI 0 := by rw [← hmE, gI_s, upd_ne (by decide)]; exact v15
      have v19 : gI m12 274 19 = nI sd := by rw [← hmE, gI_s, upd_ne (by decide)]; exact v19
      have v20 : gI m12 274 20 = nI 0 := by rw [← hmE, gI_s, upd_ne (by decide)]; exact v20
      have v312 : gI m12 312 = gI m 312 := by rw [← hmE, gI_n (by decide)]; exact v312
      have hT : TkR m12 B n z := by rw [← hmE]; exact hT.p
      have hz1 : RzU m12 sd := by rw [← hmE]; exact hz1.keep (fun x a b => gI_n (by omega))
      have hz2 : ∀ k, k < 4 → gI m12 303 (4 * sd + k) = nI 0 ∧ gI m12 304 (4 * sd + k) = nI 0 := fun k hk => by rw [← hmE, gI_n (by decide), gI_n (by decide)]; exact hz2 k hk
      clear hmE
      refine go_aload_n (q := 0) (i := 0) rfl rfl dX12_read_100 ?_
      refine go_sipush (v := nI 420) (by decide) dX12_read_101 ?_
      refine go_aload_n (q := 0) (i := 0) rfl rfl dX12_read_104 ?_
      refine go_getI lf12_263 rfl hx.o dX12_read_105 ?_
      rw [v19]
      refine gn_mul dX12_read_108 ?_
      refine go_putI lf12_272 rfl (Or.inl rfl) hx.o dX12_read_109 ?_
      generalize hmE : sI m12 274 (upd (gI m12 274) 50 (nI (420 * sd))) = m13
      have fg : FG sd m m13 := by rw [← hmE]; exact fg.p (by decide)
      have hx : Wf12 m13.1 (gR m13) := by rw [← hmE]; exact hx
      have v50 : gI m13 274 50 = nI (420 * sd) := by rw [← hmE, gI_s, upd_same]
      have v18 : gI m13 274 18 = nI lv := by rw [← hmE, gI_s, upd_ne (by decide)]; exact v18
      have v54 : gI m13 274 54 = gI m 274 54 := by rw [← hmE, gI_s, upd_ne (by decide)]; exact v54
      have v2 : gI m13 274 2 = nI 0 := by rw [← hmE, gI_s, upd_ne (by decide)]; exact v2
      have v11 : gI m13 274 11 = nI 0 := by rw [← hmE, gI_s, upd_ne (by decide)]; exact v11
      have v12 : gI m13 274 12 = nI 0 := by rw [← hmE, gI_s, upd_ne (by decide)]; exact v12
      have v13 : gI m13 274 13 = nI 0 := by rw [← hmE, gI_s, upd_ne (by decide)]; exact v13
      have v15 : gI m13 274 15 = nI 0 := by rw [← hmE, gI_s, upd_ne (by decide)]; exact v15
      have v19 : gI m13 274 19 = nI sd := by rw [← hmE, gI_s, upd_ne (by decide)]; exact v19
      have v20 : gI m13 274 20 = nI 0 := by rw [← hmE, gI_s, upd_ne (by decide)]; exact v20
      have v44 : gI m13 274 44 = nI (130 * sd) := by rw [← hmE, gI_s, upd_ne (by decide)]; exact v44
      have v312 : gI m13 312 = gI m 312 := by rw [← hmE, gI_n (by decide)]; exact v312
      have hT : TkR m13 B n z := by rw [← hmE]; exact hT.p
      have hz1 : RzU m13 sd := by rw [← hmE]; exact hz1.keep (fun x a b => gI_n (by omega))
      have hz2 : ∀ k, k < 4 → gI m13 303 (4 * sd + k) = nI 0 ∧ gI m13 304 (4 * sd + k) = nI 0 := fun k hk => by rw [← hmE, gI_n (by decide), gI_n (by decide)]; exact hz2 k hk
      clear hmE
      obtain ⟨W0, w1, w2, w3⟩ := hwv
      refine ex_rd112 hx0 hn (by omega) (tok_p hz) 401 0 (fun _ => 0) drZ (0, 0) m13 _ (by omega) (by omega) rfl (fun _ => rfl) ⟨v13, fun _ => v11, fun q => absurd rfl q, Nat.zero_le _, hz.2.1, 0, hz.2.1, v11⟩ (fun _ => ⟨v15, fun q => absurd rfl q, Nat.zero_le _⟩) (hz1.u v20) (fun _ => ⟨drZ_c, drZ_ok.1, fun h g h1 => absurd h1 (Nat.not_lt_zero h)⟩) ⟨Nat.zero_le _, drZ_ok.2⟩ (fun q => absurd rfl q) (LwI.z hz2 v12 v44 v50 ⟨W0, w1, v54.trans w2, fun i k hi => by rw [v312]; exact w3 i k hi⟩) fg v19 v2 hT
    · intro i hi ih m2 fg v4 ft v18 v54 v312
      have hx : Wf12 m2.1 (gR m2) := fg.wf hx
      refine go_iload_n (q := 1) (i := 1) rfl rfl dX12_read_10 ?_
      refine go_aload_n (q := 0) (i := 0) rfl rfl dX12_read_11 ?_
      refine go_getI lf12_199 rfl hx.o dX12_read_12 ?_
      rw [v4]
      refine gn_ge (by omega) (by omega) (tgt := 36) dX12_read_15 (by decide) (fun h15 => by exfalso; omega) (fun h15 => ?_)
      refine go_aload_n (q := 0) (i := 0) rfl rfl dX12_read_18 ?_
      refine go_getR lf12_17 rfl hx.o hx.r3 dX12_read_19 ?_
      refine go_iload_n (q := 1) (i := 1) rfl rfl dX12_read_22 ?_
      refine go_aload_n (q := 0) (i := 0) rfl rfl dX12_read_23 ?_
      refine go_getR lf12_13 rfl hx.o hx.r1 dX12_read_24 ?_
      refine go_iload_n (q := 1) (i := 1) rfl rfl dX12_read_27 ?_
      refine go_bald (j := i) hx.i1 (by omega) (by first | decide | omega) rfl dX12_read_28 ?_
      rw [fg.1.at (show ¬ (275 = 274 ∨ (276 ≤ 275 ∧ 275 ≤ 312)) by decide)]
      refine go_bast (j := i) hx.i3 (by omega) (by first | decide | omega) rfl dX12_read_29 ?_
      refine gn_inc (i := 1) (a := i) (q := 1) rfl dX12_read_30 (nle rfl) rfl ?_
      refine go_goto (tgt := 10) dX12_read_33 (by decide) ?_
      refine ih _ fg.tx (by rw [gI_n (by decide)]; exact v4) (fun j hj => ?_) (by rw [gI_n (by decide)]; exact v18) (by rw [gI_n (by decide)]; exact v54) (by rw [gI_n (by decide)]; exact v312)
      rw [gI_s, upd_c]
      by_cases e : j = i
      · rw [if_pos e, b8_255, e]; exact hb i hi
      · rw [if_neg e]; exact ft j (by omega)
  refine go_aload_n (q := 0) (i := 0) rfl rfl dX12_read_0 ?_
  refine go_aload_n (q := 0) (i := 0) rfl rfl dX12_read_1 ?_
  refine go_getI lf12_193 rfl hx.o dX12_read_2 ?_
  rw [h2]
  refine go_putI lf12_199 rfl (Or.inl rfl) hx.o dX12_read_5 ?_
  refine go_iconst (v := nI 0) (by decide) dX12_read_8 ?_
  refine go_istore_n (q := 1) (i := 1) rfl dX12_read_9 (nle rfl) (nle rfl) ?_
  exact key 0 (Nat.zero_le _) _ (FG.rf.p (by decide)) (by rw [gI_s, upd_same]) (fun j hj => absurd hj (Nat.not_lt_zero j)) (by rw [gI_s, upd_ne (by decide)]; exact h18) (by rw [gI_s, upd_ne (by decide)]) (by rw [gI_n (by decide)])
