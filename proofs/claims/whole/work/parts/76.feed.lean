
set_option maxRecDepth 100000 in
set_option maxHeartbeats 4000000 in
theorem ex_put {m : Me} {n : Nat} {w : Int32} (hx : Wf12 m.1 (gR m)) (hn : n + 4 ≤ 2000) (h1 : gI m 274 2 = nI n) : Ev mX12_put [.ref 274, .int w] m (fun o m' => o = none ∧ Ch (fun y => y = 274 ∨ y = 275) m m' ∧ (∀ k, k ≠ 2 → gI m' 274 k = gI m 274 k) ∧ gI m' 274 2 = nI (n + 1 + 1 + 1 + 1) ∧ gI m' 275 = pw4 (gI m 275) n w) := by
  refine ⟨plmX12_put, nle rfl, ?_⟩
  refine go_bipush (v := nI 24) (by decide) dX12_put_0 ?_
  refine go_istore_n (q := 2) (i := 2) rfl dX12_put_2 (nle rfl) (nle rfl) ?_
  refine go_L (L' := [some (.ref 274), some (.int w), some (.int (nI 24))]) rfl ?_
  refine go_iload_n (q := 2) (i := 2) rfl rfl dX12_put_3 ?_
  refine gz_lt (by omega) (tgt := 36) dX12_put_4 (by decide) (fun h4 => by exfalso; omega) (fun h4 => ?_)
  refine go_aload_n (q := 0) (i := 0) rfl rfl dX12_put_7 ?_
  refine go_getR lf12_13 rfl hx.o hx.r1 dX12_put_8 ?_
  refine go_aload_n (q := 0) (i := 0) rfl rfl dX12_put_11 ?_
  refine go_getI lf12_193 rfl hx.o dX12_put_12 ?_
  rw [h1]
  refine go_iload_n (q := 1) (i := 1) rfl rfl dX12_put_15 ?_
  refine go_iload_n (q := 2) (i := 2) rfl rfl dX12_put_16 ?_
  refine go_ishr dX12_put_17 ?_
  refine go_i2b dX12_put_18 ?_
  refine go_bast (j := n) hx.i1 (by omega) (by first | decide | omega) rfl dX12_put_19 ?_
  refine go_aload_n (q := 0) (i := 0) rfl rfl dX12_put_20 ?_
  refine go_dup rfl dX12_put_21 ?_
  refine go_getI lf12_193 rfl hx.o dX12_put_22 ?_
  rw [gI_n (by decide), h1]
  refine go_iconst (v := nI 1) (by decide) dX12_put_25 ?_
  refine gn_add dX12_put_26 ?_
  refine go_putI lf12_193 rfl (Or.inl rfl) hx.o dX12_put_27 ?_
  generalize hm1 : sI (sI m 275 _) 274 _ = m1
  have cA1 : Ch (fun y => y = 274 ∨ y = 275) m m1 := by rw [← hm1]; exact Ch.i (Ch.i Ch.rf (Or.inr rfl)) (Or.inl rfl)
  have hl1 : gI m1 274 2 = nI (n + 1) := by rw [← hm1, gI_s, upd_eq]
  have hk1 : ∀ k, k ≠ 2 → gI m1 274 k = gI m 274 k := fun k hk => by rw [← hm1, gI_s, upd_ne hk, gI_n (by decide)]
  have hb1 : gI m1 275 = upd (gI m 275) (n) (by4 w 24).toInt8.toInt32 := by rw [← hm1, gI_n (by decide), gI_s]; rfl
  have hx := CX12 cA1 hx
  refine go_iinc (i := 2) dX12_put_30 (nle rfl) rfl ?_
  rw [show nI 24 + Int32.ofInt (-8) = nI 16 by decide]
  refine go_goto (tgt := 3) dX12_put_33 (by decide) ?_
  refine go_L (L' := [some (.ref 274), some (.int w), some (.int (nI 16))]) rfl ?_
  refine go_iload_n (q := 2) (i := 2) rfl rfl dX12_put_3 ?_
  refine gz_lt (by omega) (tgt := 36) dX12_put_4 (by decide) (fun h4 => by exfalso; omega) (fun h4 => ?_)
  refine go_aload_n (q := 0) (i := 0) rfl rfl dX12_put_7 ?_
  refine go_getR lf12_13 rfl hx.o hx.r1 dX12_put_8 ?_
  refine go_aload_n (q := 0) (i := 0) rfl rfl dX12_put_11 ?_
  refine go_getI lf12_193 rfl hx.o dX12_put_12 ?_
  rw [hl1]
  refine go_iload_n (q := 1) (i := 1) rfl rfl dX12_put_15 ?_
  refine go_iload_n (q := 2) (i := 2) rfl rfl dX12_put_16 ?_
  refine go_ishr dX12_put_17 ?_
  refine go_i2b dX12_put_18 ?_
  refine go_bast (j := (n + 1)) hx.i1 (by omega) (by first | decide | omega) rfl dX12_put_19 ?_
  refine go_aload_n (q := 0) (i := 0) rfl rfl dX12_put_20 ?_
  refine go_dup rfl dX12_put_21 ?_
  refine go_getI lf12_193 rfl hx.o dX12_put_22 ?_
  rw [gI_n (by decide), hl1]
  refine go_iconst (v := nI 1) (by decide) dX12_put_25 ?_
  refine gn_add dX12_put_26 ?_
  refine go_putI lf12_193 rfl (Or.inl rfl) hx.o dX12_put_27 ?_
  generalize hm2 : sI (sI m1 275 _) 274 _ = m2
  have cA2 : Ch (fun y => y = 274 ∨ y = 275) m1 m2 := by rw [← hm2]; exact Ch.i (Ch.i Ch.rf (Or.inr rfl)) (Or.inl rfl)
  have hl2 : gI m2 274 2 = nI (n + 1 + 1) := by rw [← hm2, gI_s, upd_eq]
  have hk2 : ∀ k, k ≠ 2 → gI m2 274 k = gI m1 274 k := fun k hk => by rw [← hm2, gI_s, upd_ne hk, gI_n (by decide)]
  have hb2 : gI m2 275 = upd (gI m1 275) (n + 1) (by4 w 16).toInt8.toInt32 := by rw [← hm2, gI_n (by decide), gI_s]; rfl
  have hx := CX12 cA2 hx
  refine go_iinc (i := 2) dX12_put_30 (nle rfl) rfl ?_
  rw [show nI 16 + Int32.ofInt (-8) = nI 8 by decide]
  refine go_goto (tgt := 3) dX12_put_33 (by decide) ?_
  refine go_L (L' := [some (.ref 274), some (.int w), some (.int (nI 8))]) rfl ?_
  refine go_iload_n (q := 2) (i := 2) rfl rfl dX12_put_3 ?_
  refine gz_lt (by omega) (tgt := 36) dX12_put_4 (by decide) (fun h4 => by exfalso; omega) (fun h4 => ?_)
  refine go_aload_n (q := 0) (i := 0) rfl rfl dX12_put_7 ?_
  refine go_getR lf12_13 rfl hx.o hx.r1 dX12_put_8 ?_
  refine go_aload_n (q := 0) (i := 0) rfl rfl dX12_put_11 ?_
  refine go_getI lf12_193 rfl hx.o dX12_put_12 ?_
  rw [hl2]
  refine go_iload_n (q := 1) (i := 1) rfl rfl dX12_put_15 ?_
  refine go_iload_n (q := 2) (i := 2) rfl rfl dX12_put_16 ?_
  refine go_ishr dX12_put_17 ?_
  refine go_i2b dX12_put_18 ?_
  refine go_bast (j := (n + 1 + 1)) hx.i1 (by omega) (by first | decide | omega) rfl dX12_put_19 ?_
  refine go_aload_n (q := 0) (i := 0) rfl rfl dX12_put_20 ?_
  refine go_dup rfl dX12_put_21 ?_
  refine go_getI lf12_193 rfl hx.o dX12_put_22 ?_
  rw [gI_n (by decide), hl2]
  refine go_iconst (v := nI 1) (by decide) dX12_put_25 ?_
  refine gn_add dX12_put_26 ?_
  refine go_putI lf12_193 rfl (Or.inl rfl) hx.o dX12_put_27 ?_
  generalize hm3 : sI (sI m2 275 _) 274 _ = m3
  have cA3 : Ch (fun y => y = 274 ∨ y = 275) m2 m3 := by rw [← hm3]; exact Ch.i (Ch.i Ch.rf (Or.inr rfl)) (Or.inl rfl)
  have hl3 : gI m3 274 2 = nI (n + 1 + 1 + 1) := by rw [← hm3, gI_s, upd_eq]
  have hk3 : ∀ k, k ≠ 2 → gI m3 274 k = gI m2 274 k := fun k hk => by rw [← hm3, gI_s, upd_ne hk, gI_n (by decide)]
  have hb3 : gI m3 275 = upd (gI m2 275) (n + 1 + 1) (by4 w 8).toInt8.toInt32 := by rw [← hm3, gI_n (by decide), gI_s]; rfl
  have hx := CX12 cA3 hx
  refine go_iinc (i := 2) dX12_put_30 (nle rfl) rfl ?_
  rw [show nI 8 + Int32.ofInt (-8) = nI 0 by decide]
  refine go_goto (tgt := 3) dX12_put_33 (by decide) ?_
  refine go_L (L' := [some (.ref 274), some (.int w), some (.int (nI 0))]) rfl ?_
  refine go_iload_n (q := 2) (i := 2) rfl rfl dX12_put_3 ?_
  refine gz_lt (by omega) (tgt := 36) dX12_put_4 (by decide) (fun h4 => by exfalso; omega) (fun h4 => ?_)
  refine go_aload_n (q := 0) (i := 0) rfl rfl dX12_put_7 ?_
  refine go_getR lf12_13 rfl hx.o hx.r1 dX12_put_8 ?_
  refine go_aload_n (q := 0) (i := 0) rfl rfl dX12_put_11 ?_
  refine go_getI lf12_193 rfl hx.o dX12_put_12 ?_
  rw [hl3]
  refine go_iload_n (q := 1) (i := 1) rfl rfl dX12_put_15 ?_
  refine go_iload_n (q := 2) (i := 2) rfl rfl dX12_put_16 ?_
  refine go_ishr dX12_put_17 ?_
  refine go_i2b dX12_put_18 ?_
  refine go_bast (j := (n + 1 + 1 + 1)) hx.i1 (by omega) (by first | decide | omega) rfl dX12_put_19 ?_
  refine go_aload_n (q := 0) (i := 0) rfl rfl dX12_put_20 ?_
  refine go_dup rfl dX12_put_21 ?_
  refine go_getI lf12_193 rfl hx.o dX12_put_22 ?_
  rw [gI_n (by decide), hl3]
  refine go_iconst (v := nI 1) (by decide) dX12_put_25 ?_
  refine gn_add dX12_put_26 ?_
  refine go_putI lf12_193 rfl (Or.inl rfl) hx.o dX12_put_27 ?_
  generalize hm4 : sI (sI m3 275 _) 274 _ = m4
  have cA4 : Ch (fun y => y = 274 ∨ y = 275) m3 m4 := by rw [← hm4]; exact Ch.i (Ch.i Ch.rf (Or.inr rfl)) (Or.inl rfl)
  have hl4 : gI m4 274 2 = nI (n + 1 + 1 + 1 + 1) := by rw [← hm4, gI_s, upd_eq]
  have hk4 : ∀ k, k ≠ 2 → gI m4 274 k = gI m3 274 k := fun k hk => by rw [← hm4, gI_s, upd_ne hk, gI_n (by decide)]
  have hb4 : gI m4 275 = upd (gI m3 275) (n + 1 + 1 + 1) (by4 w 0).toInt8.toInt32 := by rw [← hm4, gI_n (by decide), gI_s]; rfl
  have hx := CX12 cA4 hx
  refine go_iinc (i := 2) dX12_put_30 (nle rfl) rfl ?_
  rw [show nI 0 + Int32.ofInt (-8) = -8 by decide]
  refine go_goto (tgt := 3) dX12_put_33 (by decide) ?_
  refine go_L (L' := [some (.ref 274), some (.int w), some (.int ((-8)))]) rfl ?_
  refine go_iload_n (q := 2) (i := 2) rfl rfl dX12_put_3 ?_
  refine go_if_lt (tgt := 36) dX12_put_4 (by decide) (fun h4 => ?_) (fun h4 => by exfalso; exact h4 (by decide))
  refine go_vret rfl ⟨Nat.zero_le _, Nat.zero_le _⟩ dX12_put_36 ?_
  refine ⟨rfl, ((cA1.tr cA2).tr cA3).tr cA4, fun k hk => ?_, hl4, ?_⟩
  · rw [hk4 k hk, hk3 k hk, hk2 k hk, hk1 k hk]
  · rw [hb4, hb3, hb2, hb1]
    rfl
def pw20 (T : Nat → Int32) (n : Nat) (a b c d e : Int32) : Nat → Int32 := pw4 (pw4 (pw4 (pw4 (pw4 T n a) (n + 4) b) (n + 8) c) (n + 12) d) (n + 16) e
theorem pw20_c {T T' : Nat → Int32} {n : Nat} {a b c d e : Int32} (h : ∀ k, k < n → T k = T' k) : ∀ k, k < n + 20 → pw20 T n a b c d e k = pw20 T' n a b c d e k :=
  pw4_c (n := n + 16) (pw4_c (n := n + 12) (pw4_c (n := n + 8) (pw4_c (n := n + 4) (pw4_c (n := n) h))))
set_option maxRecDepth 100000 in
set_option maxHeartbeats 4000000 in
theorem ev_feed {m : Me} {pl dr : Nat} (hX : CX m.1 (gR m) pl dr) {n : Nat} {a b c d e : Int32} (hn : n + 20 ≤ 2000) (h1 : gI m 1 1 = nI n) : Ev mX11_feed [.ref 0, .int a, .int b, .int c, .int d, .int e] m (fun o m' => o = some (.int (nI (n + 20))) ∧ Ch (fun y => y = 1 ∨ y = 2) m m' ∧ gI m' 1 1 = nI (n + 20) ∧ gI m' 2 = pw20 (gI m 2) n a b c d e) := by
  refine ⟨plmX11_feed, nle rfl, ?_⟩
  refine go_aload_n (q := 0) (i := 0) rfl rfl dX11_feed_0 ?_
  refine go_getR lf11_12 rfl hX.o hX.r0 dX11_feed_1 ?_
  refine go_getI lf11_97 rfl hX.w0.o dX11_feed_4 ?_
  rw [h1]
  refine go_bipush (v := nI 20) (by decide) dX11_feed_7 ?_
  refine gn_add dX11_feed_9 ?_
  refine go_sipush (v := nI 2000) (by decide) dX11_feed_10 ?_
  refine gn_le (by omega) (by omega) (tgt := 18) dX11_feed_13 (by decide) (fun h13 => ?_) (fun h13 => by exfalso; omega)
  refine go_aload_n (q := 0) (i := 0) rfl rfl dX11_feed_18 ?_
  refine go_getR lf11_12 rfl hX.o hX.r0 dX11_feed_19 ?_
  refine go_iload_n (q := 1) (i := 1) rfl rfl dX11_feed_22 ?_
  refine go_callV okmX9_putWord lmX11_101 ⟨nle rfl, nle rfl⟩ hX.w0.o ⟨by decide, rfl⟩ (ev_putWord (n := n) hX.w0 (by omega) h1) npmX9_putWord rfl (nle rfl) ⟨nle rfl, nle rfl⟩ dX11_feed_23 ?_
  rintro _ m1 ⟨rfl, cA1, hl1, hb1⟩
  have hX := CX.to cA1 hX
  refine go_c0 ?_
  refine go_aload_n (q := 0) (i := 0) rfl rfl dX11_feed_26 ?_
  refine go_getR lf11_12 rfl hX.o hX.r0 dX11_feed_27 ?_
  refine go_iload_n (q := 2) (i := 2) rfl rfl dX11_feed_30 ?_
  refine go_callV okmX9_putWord lmX11_101 ⟨nle rfl, nle rfl⟩ hX.w0.o ⟨by decide, rfl⟩ (ev_putWord (n := n + 4) hX.w0 (by omega) hl1) npmX9_putWord rfl (nle rfl) ⟨nle rfl, nle rfl⟩ dX11_feed_31 ?_
  rintro _ m2 ⟨rfl, cA2, hl2, hb2⟩
  have hX := CX.to cA2 hX
  refine go_c0 ?_
  refine go_aload_n (q := 0) (i := 0) rfl rfl dX11_feed_34 ?_
  refine go_getR lf11_12 rfl hX.o hX.r0 dX11_feed_35 ?_
  refine go_iload_n (q := 3) (i := 3) rfl rfl dX11_feed_38 ?_
  refine go_callV okmX9_putWord lmX11_101 ⟨nle rfl, nle rfl⟩ hX.w0.o ⟨by decide, rfl⟩ (ev_putWord (n := n + 8) hX.w0 (by omega) hl2) npmX9_putWord rfl (nle rfl) ⟨nle rfl, nle rfl⟩ dX11_feed_39 ?_
  rintro _ m3 ⟨rfl, cA3, hl3, hb3⟩
  have hX := CX.to cA3 hX
  refine go_c0 ?_
  refine go_aload_n (q := 0) (i := 0) rfl rfl dX11_feed_42 ?_
  refine go_getR lf11_12 rfl hX.o hX.r0 dX11_feed_43 ?_
  refine go_iload (i := 4) rfl dX11_feed_46 ?_
  refine go_callV okmX9_putWord lmX11_101 ⟨nle rfl, nle rfl⟩ hX.w0.o ⟨by decide, rfl⟩ (ev_putWord (n := n + 12) hX.w0 (by omega) hl3) npmX9_putWord rfl (nle rfl) ⟨nle rfl, nle rfl⟩ dX11_feed_48 ?_
  rintro _ m4 ⟨rfl, cA4, hl4, hb4⟩
  have hX := CX.to cA4 hX
  refine go_c0 ?_
  refine go_aload_n (q := 0) (i := 0) rfl rfl dX11_feed_51 ?_
  refine go_getR lf11_12 rfl hX.o hX.r0 dX11_feed_52 ?_
  refine go_iload (i := 5) rfl dX11_feed_55 ?_
  refine go_callV okmX9_putWord lmX11_101 ⟨nle rfl, nle rfl⟩ hX.w0.o ⟨by decide, rfl⟩ (ev_putWord (n := n + 16) hX.w0 (by omega) hl4) npmX9_putWord rfl (nle rfl) ⟨nle rfl, nle rfl⟩ dX11_feed_57 ?_
  rintro _ m5 ⟨rfl, cA5, hl5, hb5⟩
  have hX := CX.to cA5 hX
  refine go_c0 ?_
  refine go_aload_n (q := 0) (i := 0) rfl rfl dX11_feed_60 ?_
  refine go_getR lf11_12 rfl hX.o hX.r0 dX11_feed_61 ?_
  refine go_getI lf11_97 rfl hX.w0.o dX11_feed_64 ?_
  rw [hl5]
  refine go_iret rfl ⟨Nat.zero_le _, Nat.zero_le _⟩ dX11_feed_67 ?_
  refine ⟨rfl, (((cA1.tr cA2).tr cA3).tr cA4).tr cA5, hl5, ?_⟩
  rw [hb5, hb4, hb3, hb2, hb1]
  rfl
set_option maxRecDepth 100000 in
set_option maxHeartbeats 4000000 in
theorem ev_feed0 {m : Me} {pl dr : Nat} (hX : CX m.1 (gR m) pl dr) {n : Nat} {a b c d e : Int32} (hn : n ≤ 2000) (h20 : 2000 < n + 20) (h1 : gI m 1 1 = nI n) : Ev mX11_feed [.ref 0, .int a, .int b, .int c, .int d, .int e] m (fun o m' => o = some (.int (-1)) ∧ m' = m) := by
  refine ⟨plmX11_feed, nle rfl, ?_⟩
  refine go_aload_n (q := 0) (i := 0) rfl rfl dX11_feed_0 ?_
  refine go_getR lf11_12 rfl hX.o hX.r0 dX11_feed_1 ?_
  refine go_getI lf11_97 rfl hX.w0.o dX11_feed_4 ?_
  rw [h1]
  refine go_bipush (v := nI 20) (by decide) dX11_feed_7 ?_
  refine gn_add dX11_feed_9 ?_
  refine go_sipush (v := nI 2000) (by decide) dX11_feed_10 ?_
  refine gn_le (by omega) (by omega) (tgt := 18) dX11_feed_13 (by decide) (fun h13 => by exfalso; omega) (fun h13 => ?_)
  refine go_iconst (v := -1) (by decide) dX11_feed_16 ?_
  refine go_iret rfl ⟨Nat.zero_le _, Nat.zero_le _⟩ dX11_feed_17 ?_
  exact ⟨rfl, rfl⟩
set_option maxRecDepth 100000 in
set_option maxHeartbeats 4000000 in
theorem ex_feed {m : Me} (hx : Wf12 m.1 (gR m)) {n : Nat} {a b c d e : Int32} (hn : n + 20 ≤ 2000) (h1 : gI m 274 2 = nI n) : Ev mX12_feed [.ref 274, .int a, .int b, .int c, .int d, .int e] m (fun o m' => o = some (.int (nI (n + 20))) ∧ Ch (fun y => y = 274 ∨ y = 275) m m' ∧ (∀ k, k ≠ 2 → gI m' 274 k = gI m 274 k) ∧ gI m' 274 2 = nI (n + 20) ∧ gI m' 275 = pw20 (gI m 275) n a b c d e) := by
  refine ⟨plmX12_feed, nle rfl, ?_⟩
  refine go_aload_n (q := 0) (i := 0) rfl rfl dX12_feed_0 ?_
  refine go_getI lf12_193 rfl hx.o dX12_feed_1 ?_
  rw [h1]
  refine go_bipush (v := nI 20) (by decide) dX12_feed_4 ?_
  refine gn_add dX12_feed_6 ?_
  refine go_sipush (v := nI 2000) (by decide) dX12_feed_7 ?_
  refine gn_le (by omega) (by omega) (tgt := 15) dX12_feed_10 (by decide) (fun h10 => ?_) (fun h10 => by exfalso; omega)
  refine go_aload_n (q := 0) (i := 0) rfl rfl dX12_feed_15 ?_
  refine go_iload_n (q := 1) (i := 1) rfl rfl dX12_feed_16 ?_
  refine go_callV okmX12_put lmX12_196 ⟨nle rfl, nle rfl⟩ hx.o ⟨by decide, rfl⟩ (ex_put (n := n) hx (by omega) h1) npmX12_put rfl (nle rfl) ⟨nle rfl, nle rfl⟩ dX12_feed_17 ?_
  rintro _ m1 ⟨rfl, cA1, hk1, hl1, hb1⟩
  have hx := CX12 cA1 hx
  refine go_c0 ?_
  refine go_aload_n (q := 0) (i := 0) rfl rfl dX12_feed_20 ?_
  refine go_iload_n (q := 2) (i := 2) rfl rfl dX12_feed_21 ?_
  refine go_callV okmX12_put lmX12_196 ⟨nle rfl, nle rfl⟩ hx.o ⟨by decide, rfl⟩ (ex_put (n := n + 4) hx (by omega) hl1) npmX12_put rfl (nle rfl) ⟨nle rfl, nle rfl⟩ dX12_feed_22 ?_
  rintro _ m2 ⟨rfl, cA2, hk2, hl2, hb2⟩
  have hx := CX12 cA2 hx
  refine go_c0 ?_
  refine go_aload_n (q := 0) (i := 0) rfl rfl dX12_feed_25 ?_
  refine go_iload_n (q := 3) (i := 3) rfl rfl dX12_feed_26 ?_
  refine go_callV okmX12_put lmX12_196 ⟨nle rfl, nle rfl⟩ hx.o ⟨by decide, rfl⟩ (ex_put (n := n + 8) hx (by omega) hl2) npmX12_put rfl (nle rfl) ⟨nle rfl, nle rfl⟩ dX12_feed_27 ?_
  rintro _ m3 ⟨rfl, cA3, hk3, hl3, hb3⟩
  have hx := CX12 cA3 hx
  refine go_c0 ?_
  refine go_aload_n (q := 0) (i := 0) rfl rfl dX12_feed_30 ?_
  refine go_iload (i := 4) rfl dX12_feed_31 ?_
  refine go_callV okmX12_put lmX12_196 ⟨nle rfl, nle rfl⟩ hx.o ⟨by decide, rfl⟩ (ex_put (n := n + 12) hx (by omega) hl3) npmX12_put rfl (nle rfl) ⟨nle rfl, nle rfl⟩ dX12_feed_33 ?_
  rintro _ m4 ⟨rfl, cA4, hk4, hl4, hb4⟩
  have hx := CX12 cA4 hx
  refine go_c0 ?_
  refine go_aload_n (q := 0) (i := 0) rfl rfl dX12_feed_36 ?_
  refine go_iload (i := 5) rfl dX12_feed_37 ?_
  refine go_callV okmX12_put lmX12_196 ⟨nle rfl, nle rfl⟩ hx.o ⟨by decide, rfl⟩ (ex_put (n := n + 16) hx (by omega) hl4) npmX12_put rfl (nle rfl) ⟨nle rfl, nle rfl⟩ dX12_feed_39 ?_
  rintro _ m5 ⟨rfl, cA5, hk5, hl5, hb5⟩
  have hx := CX12 cA5 hx
  refine go_c0 ?_
  refine go_aload_n (q := 0) (i := 0) rfl rfl dX12_feed_42 ?_
  refine go_getI lf12_193 rfl hx.o dX12_feed_43 ?_
  rw [hl5]
  refine go_iret rfl ⟨Nat.zero_le _, Nat.zero_le _⟩ dX12_feed_46 ?_
  refine ⟨rfl, (((cA1.tr cA2).tr cA3).tr cA4).tr cA5, fun k hk => ?_, hl5, ?_⟩
  · rw [hk5 k hk, hk4 k hk, hk3 k hk, hk2 k hk, hk1 k hk]
  · rw [hb5, hb4, hb3, hb2, hb1]
    rfl
set_option maxRecDepth 100000 in
set_option maxHeartbeats 4000000 in
theorem ex_feed0 {m : Me} (hx : Wf12 m.1 (gR m)) {n : Nat} {a b c d e : Int32} (hn : n ≤ 2000) (h20 : 2000 < n + 20) (h1 : gI m 274 2 = nI n) : Ev mX12_feed [.ref 274, .int a, .int b, .int c, .int d, .int e] m (fun o m' => o = some (.int (-1)) ∧ m' = m) := by
  refine ⟨plmX12_feed, nle rfl, ?_⟩
  refine go_aload_n (q := 0) (i := 0) rfl rfl dX12_feed_0 ?_
  refine go_getI lf12_193 rfl hx.o dX12_feed_1 ?_
  rw [h1]
  refine go_bipush (v := nI 20) (by decide) dX12_feed_4 ?_
  refine gn_add dX12_feed_6 ?_
  refine go_sipush (v := nI 2000) (by decide) dX12_feed_7 ?_
  refine gn_le (by omega) (by omega) (tgt := 15) dX12_feed_10 (by decide) (fun h10 => by exfalso; omega) (fun h10 => ?_)
  refine go_iconst (v := -1) (by decide) dX12_feed_13 ?_
  refine go_iret rfl ⟨Nat.zero_le _, Nat.zero_le _⟩ dX12_feed_14 ?_
  exact ⟨rfl, rfl⟩
