/-- the row's letters from r on are letters of a ROW, and it is as long as the first one -/
def roK (D : Dr) (l : List Nat) (r : Nat) : Prop := l.length = rwW D l ∧ ∀ j, r ≤ j → j < l.length → l.getD j 0 ≤ 4 ∨ l.getD j 0 = 15
theorem roK_0 {D : Dr} {l : List Nat} : roK D l 0 ↔ rwO D l := by
  unfold roK rwO
  rw [all_g (p := fun c => c ≤ 4 ∨ c = 15)]
theorem roK_s {D : Dr} {l : List Nat} {r : Nat} (h : r < l.length) : roK D l r ↔ roK D l (r + 1) ∧ (l.getD r 0 ≤ 4 ∨ l.getD r 0 = 15) := by
  unfold roK
  refine ⟨fun q => ⟨⟨q.1, fun j h1 h2 => q.2 j (by omega) h2⟩, q.2 r (Nat.le_refl _) h⟩, fun q => ⟨q.1.1, fun j h1 h2 => ?_⟩⟩
  by_cases e : j = r
  · rw [e]; exact q.2
  · exact q.1.2 j (by omega) h2
theorem roK_l {D : Dr} {l : List Nat} : roK D l l.length ↔ l.length = rwW D l := ⟨fun h => h.1, fun h => ⟨h, fun j h1 h2 => by omega⟩⟩
/-- the cells of a row, as the class sets them from the last one on -/
def CwR (m m1 : Me) (dr : Nat) (D : Dr) (l : List Nat) (r : Nat) : Prop := ∀ c, c < 40 → gI m1 (dr + 1) c = if c / 8 = D.n 1 ∧ r ≤ c % 8 ∧ c % 8 < l.length then owS (l.getD (c % 8) 0) else gI m (dr + 1) c
theorem upd_c {f : Nat → Int32} {i k : Nat} {v : Int32} : upd f i v k = if k = i then v else f k := by
  by_cases h : k = i
  · rw [if_pos h, h, upd_same]
  · rw [if_neg h, upd_ne h]
set_option maxRecDepth 100000 in
set_option maxHeartbeats 8000000 in
theorem ev_fillRow {m : Me} {B : Nat → Nat} {n z dr p b : Nat} {w : Nat × Nat} {D : Dr} (hT : TkX m B n z) (hw : Wf10 m.1 (gR m) 3) (hd : Wf0 m.1 (gR m) 10) (hp : Wf7 m.1 (gR m) dr) (hdr : dr = 226 ∨ dr = 241) (hf : FT m B n z w) (hC : DrC m dr D b) (hat : gI m 10 4 = nI p) (hp4 : p < 400) (hk1 : kG B n z (p + 1) = 23) (hl : NmO (tL B n (p + 1))) (h5 : D.n 1 < 5) (h8 : D.n 0 ≤ 8) (hzz : D.n 0 = 0 ↔ D.n 1 = 0) : Ev mX0_fillRow [.ref 10, .ref dr, .ref 3] m (fun o m' => o = none ∧ FT m' B n z (wq (¬ rwO D (tL B n (p + 1))) 6 (p + 1) w) ∧ ((wq (¬ rwO D (tL B n (p + 1))) 6 (p + 1) w).1 = 0 → DrC m' dr (rwD D (tL B n (p + 1))) b) ∧ FD dr m m') := by
  refine ⟨plmX0_fillRow, nle rfl, ?_⟩
  have hl8 := hl.2.2
  have hll := hl.2.1
  have hlt0 : nkC ((tL B n (p + 1)).take (tL B n (p + 1)).length) = nkC (tL B n (p + 1)) := by rw [List.take_length]
  have key : ∀ r, r ≤ (tL B n (p + 1)).length → ∀ (x7 : Option Value) (m1 : Me), FT m1 B n z (wq (¬ roK D (tL B n (p + 1)) r) 6 (p + 1) w) → CwR m m1 dr D (tL B n (p + 1)) r → (∀ x, x ≠ 3 → x ≠ dr + 1 → gI m1 x = gI m x) → (∀ x, gJ m1 x = gJ m x) → FD dr m m1 → Go mX0_fillRow (fun o m' => o = none ∧ FT m' B n z (wq (¬ rwO D (tL B n (p + 1))) 6 (p + 1) w) ∧ ((wq (¬ rwO D (tL B n (p + 1))) 6 (p + 1) w).1 = 0 → DrC m' dr (rwD D (tL B n (p + 1))) b) ∧ FD dr m m') 55 [some (.ref 10), some (.ref dr), some (.ref 3), some (.long (lN (nkC ((tL B n (p + 1)).take r)))), none, some (.int (nI (tL B n (p + 1)).length)), some (.int (nI r + Int32.ofInt (-1))), x7] [] m1 0 0 := by
    intro r
    induction r with
    | zero =>
      intro _ x7 m1 hf hcw he hj fd
      have hT := FD.tk fd (by omega) hT
      have hw := fd.w3 hw
      have hd := fd.w0 hd
      have hp := fd.w7 hp
      have hat : gI m1 10 4 = nI p := fd.2.2.trans hat
      have hdn : gI m1 dr 1 = nI (D.n 1) := by rw [he dr (by omega) (by omega)]; exact hC.1.2.1
      rw [show nI 0 + Int32.ofInt (-1) = -1 by decide]
      refine go_iload (i := 6) rfl dX0_fillRow_55 ?_
      refine go_if_lt (tgt := 115) dX0_fillRow_57 (by decide) (fun h57 => ?_) (fun h57 => by exfalso; exact h57 (by decide))
      refine go_aload_n (q := 1) (i := 1) rfl rfl dX0_fillRow_115 ?_
      refine go_iload (i := 5) rfl dX0_fillRow_116 ?_
      refine go_putI lf0_54 rfl (Or.inl rfl) hp.o dX0_fillRow_118 ?_
      refine go_aload_n (q := 1) (i := 1) rfl rfl dX0_fillRow_121 ?_
      refine go_dup rfl dX0_fillRow_122 ?_
      refine go_getI lf0_57 rfl hp.o dX0_fillRow_123 ?_
      rw [gI_s, upd_ne (by decide), hdn]
      refine go_iconst (v := nI 1) (by decide) dX0_fillRow_126 ?_
      refine gn_add dX0_fillRow_127 ?_
      refine go_putI lf0_57 rfl (Or.inl rfl) hp.o dX0_fillRow_128 ?_
      refine go_vret rfl ⟨Nat.zero_le _, Nat.zero_le _⟩ dX0_fillRow_131 ?_
      refine ⟨rfl, ?_, fun hz => ?_, (fd.pl (by omega) ⟨by omega, by omega⟩).pl (by omega) ⟨by omega, by omega⟩⟩
      · rw [wq_e (d := ¬ roK D (tL B n (p + 1)) 0) (by rw [roK_0])]
        exact FT.of hf (by rw [gI_n (by omega), gI_n (by omega)])
      · have hz := Classical.not_not.mp (wq_z (by decide) hz).1
        refine hC.ro (by omega) hl hz h5 h8 hzz (fun k => ?_) (fun c hc => ?_) (fun x a b c => ?_) hj
        · rw [gI_s, gI_s, upd_c, upd_c, he dr (by omega) (by omega)]
        · rw [gI_n (by omega), gI_n (by omega), hcw c hc]
          by_cases q : c / 8 = D.n 1 ∧ c % 8 < (tL B n (p + 1)).length
          · have hm := getD_mem q.2
            rw [if_pos ⟨q.1, Nat.zero_le _, q.2⟩, if_pos q, (owS_c (hl.1 _ hm).1 (hl.1 _ hm).2).2 (hz.2 _ hm)]
          · rw [if_neg (fun y => q ⟨y.1, y.2.2⟩), if_neg q]
        · rw [gI_n b, gI_n b]; exact he x a c
    | succ r ih0 =>
      intro hrl x7 m1 hf hcw he hj fd
      have ih := ih0 (by omega)
      have hl8 := hl.2.2
      have hT := FD.tk fd (by omega) hT
      have hw := fd.w3 hw
      have hd := fd.w0 hd
      have hp := fd.w7 hp
      have hat : gI m1 10 4 = nI p := fd.2.2.trans hat
      have hdn : gI m1 dr 1 = nI (D.n 1) := by rw [he dr (by omega) (by omega)]; exact hC.1.2.1
      have hod := ltO_d hl.1 (x := r) (by omega)
      have hoc := owS_c hod.1 hod.2
      have hnt := nkC_t (l := (tL B n (p + 1))) (x := r) (by omega)
      have hnb := nkC_b (ltO_tk hl.1 (r + 1)) (take_le hl.2.2 (r + 1))
      have hand : (lN (nkC ((tL B n (p + 1)).take (r + 1))) &&& (31 : Int64)).toInt32 = nI ((tL B n (p + 1)).getD r 0) := by
        rw [show lN (nkC ((tL B n (p + 1)).take (r + 1))) &&& (31 : Int64) = lN (nkC ((tL B n (p + 1)).take (r + 1)) % 2 ^ 5) from wb_mask (k := 5) (by omega) (by decide), lN_i]
        congr 1
        omega
      have hshr : nkC ((tL B n (p + 1)).take (r + 1)) / 2 ^ 5 = nkC ((tL B n (p + 1)).take r) := by omega
      rw [nI_dn (by omega), Nat.add_sub_cancel]
      refine go_iload (i := 6) rfl dX0_fillRow_55 ?_
      refine gz_lt (by omega) (tgt := 115) dX0_fillRow_57 (by decide) (fun h57 => by exfalso; omega) (fun h57 => ?_)
      refine go_lload_n (q := 3) (i := 3) rfl rfl dX0_fillRow_60 ?_
      refine go_ldc2 (wg3 199 rfl rfl) dX0_fillRow_61 ?_
      refine go_land dX0_fillRow_64 ?_
      refine go_l2i dX0_fillRow_65 ?_
      rw [hand]
      refine go_callS okmX0_ownerOf lmX0_116 ⟨nle rfl, nle rfl⟩ (ev_ownerOf hod.1 (by omega)) npmX0_ownerOf rfl (nle rfl) ⟨nle rfl, nle rfl⟩ dX0_fillRow_66 ?_
      rintro _ mz ⟨rfl, hz⟩
      subst mz
      refine go_c1 ?_
      refine go_istore (i := 7) dX0_fillRow_69 (nle rfl) (nle rfl) ?_
      refine go_lload_n (q := 3) (i := 3) rfl rfl dX0_fillRow_71 ?_
      refine go_iconst (v := nI 5) (by decide) dX0_fillRow_72 ?_
      refine go_lushr dX0_fillRow_73 ?_
      rw [wb_shr (by omega) (by omega), hshr]
      refine go_lstore_n (q := 3) (i := 3) rfl dX0_fillRow_74 (nle rfl) (nle rfl) ?_
      refine go_iload (i := 7) rfl dX0_fillRow_75 ?_
      refine go_iconst (v := -1) (by decide) dX0_fillRow_77 ?_
      refine go_icmp_ne (tgt := 97) dX0_fillRow_78 (by decide) (fun h78 => ?_) (fun h78 => ?_)
      · skip
        refine go_aload_n (q := 1) (i := 1) rfl rfl dX0_fillRow_97 ?_
        refine go_iload (i := 6) rfl dX0_fillRow_98 ?_
        refine go_aload_n (q := 1) (i := 1) rfl rfl dX0_fillRow_100 ?_
        refine go_getI lf0_57 rfl hp.o dX0_fillRow_101 ?_
        rw [hdn]
        refine go_iload (i := 7) rfl dX0_fillRow_104 ?_
        refine go_callV okmX7_putCell lmX0_119 ⟨nle rfl, nle rfl⟩ hp.o ⟨by decide, rfl⟩ (ev_putCell hp (by omega) h5) npmX7_putCell rfl (nle rfl) ⟨nle rfl, nle rfl⟩ dX0_fillRow_106 ?_
        rintro _ m4 ⟨rfl, he4⟩
        subst he4
        refine go_c0 ?_
        refine go_iinc (i := 6) dX0_fillRow_109 (nle rfl) rfl ?_
        refine go_goto (tgt := 55) dX0_fillRow_112 (by decide) ?_
        refine ih (some (.int (owS ((tL B n (p + 1)).getD r 0)))) _ ?_ (fun c hc => ?_) (fun x a b => by rw [gI_n b]; exact he x a b) hj (fd.pl (by omega) ⟨by omega, by omega⟩)
        · rw [wq_e (d := ¬ roK D (tL B n (p + 1)) (r + 1)) (by rw [roK_s hrl, and_iff_left (Classical.not_not.mp (fun q => h78 (hoc.1.mpr q)))])]
          exact FT.of hf (by rw [gI_n (by omega)])
        · rw [gI_s, upd_c]
          by_cases q : c = D.n 1 * 8 + r
          · rw [if_pos q, if_pos ⟨by omega, by omega, by omega⟩, show c % 8 = r by omega]
          · rw [if_neg q, hcw c hc]
            by_cases g : c / 8 = D.n 1 ∧ r + 1 ≤ c % 8 ∧ c % 8 < (tL B n (p + 1)).length
            · rw [if_pos g, if_pos ⟨g.1, by omega, g.2.2⟩]
            · rw [if_neg g, if_neg (fun y => g ⟨y.1, by omega, y.2.2⟩)]
      · skip
        refine go_aload_n (q := 2) (i := 2) rfl rfl dX0_fillRow_81 ?_
        refine go_bipush (v := nI 6) (by decide) dX0_fillRow_82 ?_
        refine go_aload_n (q := 2) (i := 2) rfl rfl dX0_fillRow_84 ?_
        refine go_aload_n (q := 0) (i := 0) rfl rfl dX0_fillRow_85 ?_
        refine go_getI lf0_30 rfl hd.o dX0_fillRow_86 ?_
        rw [hat]
        refine go_iconst (v := nI 1) (by decide) dX0_fillRow_89 ?_
        refine gn_add dX0_fillRow_90 ?_
        refine go_callV okmX10_placeAt lmX0_111 ⟨nle rfl, nle rfl⟩ hw.o ⟨by decide, rfl⟩ (ev_tp hT hw (by omega)) npmX10_placeAt rfl (nle rfl) ⟨nle rfl, nle rfl⟩ dX0_fillRow_91 ?_
        rintro _ mz ⟨rfl, hz⟩
        subst mz
        refine go_c1 ?_
        refine go_callV okmX10_fail lmX0_63 ⟨nle rfl, nle rfl⟩ hw.o ⟨by decide, rfl⟩ (ev_failw hw hf (c := 6) (by decide)) npmX10_fail rfl (nle rfl) ⟨nle rfl, nle rfl⟩ dX0_fillRow_94 ?_
        rintro _ m2 ⟨rfl, f1, c1⟩
        have hT := (c1).t hT
        have hw := (c1).w hw
        have hp := FD.w7 ((c1).fd (dr := dr)) hp
        have he : ∀ x, x ≠ 3 → x ≠ dr + 1 → gI m2 x = gI m x := fun x a b => ((c1).1.at a).trans (he x a b)
        have hj : ∀ x, gJ m2 x = gJ m x := fun x => ((c1).1.aj (fun a => a)).trans (hj x)
        have fd := fd.tr (c1).fd
        have hcw : CwR m m2 dr D (tL B n (p + 1)) (r + 1) := fun c hc => by rw [(c1).1.at (by omega)]; exact hcw c hc
        have hdn : gI m2 dr 1 = nI (D.n 1) := by rw [he dr (by omega) (by omega)]; exact hC.1.2.1
        refine go_c0 ?_
        refine go_aload_n (q := 1) (i := 1) rfl rfl dX0_fillRow_97 ?_
        refine go_iload (i := 6) rfl dX0_fillRow_98 ?_
        refine go_aload_n (q := 1) (i := 1) rfl rfl dX0_fillRow_100 ?_
        refine go_getI lf0_57 rfl hp.o dX0_fillRow_101 ?_
        rw [hdn]
        refine go_iload (i := 7) rfl dX0_fillRow_104 ?_
        refine go_callV okmX7_putCell lmX0_119 ⟨nle rfl, nle rfl⟩ hp.o ⟨by decide, rfl⟩ (ev_putCell hp (by omega) h5) npmX7_putCell rfl (nle rfl) ⟨nle rfl, nle rfl⟩ dX0_fillRow_106 ?_
        rintro _ m4 ⟨rfl, he4⟩
        subst he4
        refine go_c0 ?_
        refine go_iinc (i := 6) dX0_fillRow_109 (nle rfl) rfl ?_
        refine go_goto (tgt := 55) dX0_fillRow_112 (by decide) ?_
        refine ih (some (.int (owS ((tL B n (p + 1)).getD r 0)))) _ ?_ (fun c hc => ?_) (fun x a b => by rw [gI_n b]; exact he x a b) hj (fd.pl (by omega) ⟨by omega, by omega⟩)
        · rw [wq_e (d := ¬ roK D (tL B n (p + 1)) (r + 1) ∨ True) (by simp only [or_true, iff_true]; rw [roK_s hrl]; exact fun q => (hoc.1.mp h78) q.2), ← wq_o (by decide)]
          exact FT.of f1 (by rw [gI_n (by omega)])
        · rw [gI_s, upd_c]
          by_cases q : c = D.n 1 * 8 + r
          · rw [if_pos q, if_pos ⟨by omega, by omega, by omega⟩, show c % 8 = r by omega]
          · rw [if_neg q, hcw c hc]
            by_cases g : c / 8 = D.n 1 ∧ r + 1 ≤ c % 8 ∧ c % 8 < (tL B n (p + 1)).length
            · rw [if_pos g, if_pos ⟨g.1, by omega, g.2.2⟩]
            · rw [if_neg g, if_neg (fun y => g ⟨y.1, by omega, y.2.2⟩)]
  refine go_aload_n (q := 2) (i := 2) rfl rfl dX0_fillRow_0 ?_
  refine go_aload_n (q := 0) (i := 0) rfl rfl dX0_fillRow_1 ?_
  refine go_getI lf0_30 rfl hd.o dX0_fillRow_2 ?_
  rw [hat]
  refine go_iconst (v := nI 1) (by decide) dX0_fillRow_5 ?_
  refine gn_add dX0_fillRow_6 ?_
  refine go_callV okmX10_valueAt lmX0_103 ⟨nle rfl, nle rfl⟩ hw.o ⟨by decide, rfl⟩ (ev_tv hT hw (by omega)) npmX10_valueAt rfl (nle rfl) ⟨nle rfl, nle rfl⟩ dX0_fillRow_7 ?_
  rintro _ mz ⟨⟨x, rfl, hx1, hx2⟩, hz⟩
  subst mz
  obtain rfl := hx2 hk1
  refine go_c1 ?_
  refine go_lstore_n (q := 3) (i := 3) rfl dX0_fillRow_10 (nle rfl) (nle rfl) ?_
  refine go_lload_n (q := 3) (i := 3) rfl rfl dX0_fillRow_11 ?_
  refine go_callS okmX10_lettersOf lmX0_107 ⟨nle rfl, nle rfl⟩ (ev_lettersOf hl) npmX10_lettersOf rfl (nle rfl) ⟨nle rfl, nle rfl⟩ dX0_fillRow_12 ?_
  rintro _ mz ⟨rfl, hz⟩
  subst mz
  refine go_c1 ?_
  refine go_istore (i := 5) dX0_fillRow_15 (nle rfl) (nle rfl) ?_
  refine go_aload_n (q := 1) (i := 1) rfl rfl dX0_fillRow_17 ?_
  refine go_getI lf0_57 rfl hp.o dX0_fillRow_18 ?_
  rw [hC.1.2.1]
  refine gz_le (by omega) (tgt := 49) dX0_fillRow_21 (by decide) (fun h21 => ?_) (fun h21 => ?_)
  · skip
    refine go_iload (i := 5) rfl dX0_fillRow_49 ?_
    refine go_iconst (v := nI 1) (by decide) dX0_fillRow_51 ?_
    refine go_isub dX0_fillRow_52 ?_
    refine go_istore (i := 6) dX0_fillRow_53 (nle rfl) (nle rfl) ?_
    rw [i_m1, ← hlt0]
    refine key _ (Nat.le_refl _) none m ?_ (fun c hc => by rw [if_neg (fun y => by omega)]) (fun x a b => rfl) (fun x => rfl) FD.rf
    rw [wq_n (fun q => q (by rw [roK_l]; unfold rwW; rw [if_pos (by omega)]))]
    exact hf
  · skip
    refine go_iload (i := 5) rfl dX0_fillRow_24 ?_
    refine go_aload_n (q := 1) (i := 1) rfl rfl dX0_fillRow_26 ?_
    refine go_getI lf0_54 rfl hp.o dX0_fillRow_27 ?_
    rw [hC.1.1]
    refine gn_eq (by omega) (by omega) (tgt := 49) dX0_fillRow_30 (by decide) (fun h30 => ?_) (fun h30 => ?_)
    · skip
      refine go_iload (i := 5) rfl dX0_fillRow_49 ?_
      refine go_iconst (v := nI 1) (by decide) dX0_fillRow_51 ?_
      refine go_isub dX0_fillRow_52 ?_
      refine go_istore (i := 6) dX0_fillRow_53 (nle rfl) (nle rfl) ?_
      rw [i_m1, ← hlt0]
      refine key _ (Nat.le_refl _) none m ?_ (fun c hc => by rw [if_neg (fun y => by omega)]) (fun x a b => rfl) (fun x => rfl) FD.rf
      rw [wq_n (fun q => q (by rw [roK_l]; unfold rwW; rw [if_neg (by omega)]; omega))]
      exact hf
    · skip
      refine go_aload_n (q := 2) (i := 2) rfl rfl dX0_fillRow_33 ?_
      refine go_bipush (v := nI 6) (by decide) dX0_fillRow_34 ?_
      refine go_aload_n (q := 2) (i := 2) rfl rfl dX0_fillRow_36 ?_
      refine go_aload_n (q := 0) (i := 0) rfl rfl dX0_fillRow_37 ?_
      refine go_getI lf0_30 rfl hd.o dX0_fillRow_38 ?_
      rw [hat]
      refine go_iconst (v := nI 1) (by decide) dX0_fillRow_41 ?_
      refine gn_add dX0_fillRow_42 ?_
      refine go_callV okmX10_placeAt lmX0_111 ⟨nle rfl, nle rfl⟩ hw.o ⟨by decide, rfl⟩ (ev_tp hT hw (by omega)) npmX10_placeAt rfl (nle rfl) ⟨nle rfl, nle rfl⟩ dX0_fillRow_43 ?_
      rintro _ mz ⟨rfl, hz⟩
      subst mz
      refine go_c1 ?_
      refine go_callV okmX10_fail lmX0_63 ⟨nle rfl, nle rfl⟩ hw.o ⟨by decide, rfl⟩ (ev_failw hw hf (c := 6) (by decide)) npmX10_fail rfl (nle rfl) ⟨nle rfl, nle rfl⟩ dX0_fillRow_46 ?_
      rintro _ m2 ⟨rfl, f1, c1⟩
      refine go_c0 ?_
      refine go_iload (i := 5) rfl dX0_fillRow_49 ?_
      refine go_iconst (v := nI 1) (by decide) dX0_fillRow_51 ?_
      refine go_isub dX0_fillRow_52 ?_
      refine go_istore (i := 6) dX0_fillRow_53 (nle rfl) (nle rfl) ?_
      rw [i_m1, ← hlt0]
      refine key _ (Nat.le_refl _) none m2 ?_ (fun c hc => ?_) (fun x a b => c1.1.at a) (fun x => c1.1.aj (fun a => a)) c1.fd
      · rw [wq_e (d := True) (by simp only [iff_true]; rw [roK_l]; unfold rwW; rw [if_neg (by omega)]; omega)]
        exact f1
      · rw [if_neg (fun y => by omega), c1.1.at (by omega)]
