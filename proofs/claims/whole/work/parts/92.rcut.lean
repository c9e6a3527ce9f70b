def kz (j : Nat) (l : List Nat) : Nat := if kwI l < j then 20 + kwI l else 1
theorem kz_e {j : Nat} {l : List Nat} (hj : j < 23) (h : kwL j = l) : 20 + j = kz (j + 1) l := by
  unfold kz
  rw [kwI_of hj h, if_pos (by omega)]
theorem kz_n {j : Nat} {l : List Nat} (hj : j < 23) (h : ¬ kwL j = l) : kz j l = kz (j + 1) l := by
  unfold kz
  rcases kwI_s l with ⟨a, b⟩ | ⟨a, b⟩
  · have : kwI l ≠ j := fun z => h (by rw [← z]; exact b)
    by_cases q : kwI l < j
    · rw [if_pos q, if_pos (by omega)]
    · rw [if_neg q, if_neg (by omega)]
  · rw [if_neg (by omega), if_neg (by omega)]
theorem kz_r (l : List Nat) : kz 23 l = rk (kwI l) := by
  unfold kz rk
  rcases kwI_s l with ⟨a, b⟩ | ⟨a, b⟩
  · rw [if_pos a, if_pos a]
  · rw [if_neg (by omega), if_neg (by omega), a]; rfl
theorem kwM_e {j : Nat} {l : List Nat} (hj : j < 23) (ho : ltO l) (h8 : l.length ≤ 8) : kwM j = lN (nkM l) ↔ kwL j = l := by
  have p8 : ∀ (l : List Nat), ltO l → l.length ≤ 8 → nkM l < 2 ^ 50 := fun l o h => Nat.lt_of_lt_of_le (nkM_lt _ l rfl o) (Nat.le_trans (Nat.pow_le_pow_right (by decide) h) (by decide))
  have a := p8 (kwL j) (kw_ok j hj).1 (kw_ok j hj).2
  have b := p8 l ho h8
  unfold kwM
  rw [pk_lEQ (by omega) (by omega)]
  exact ⟨fun z => nkM_inj _ _ _ rfl (kw_ok j hj).1 ho z, fun z => by rw [z]⟩
set_option maxRecDepth 100000 in
set_option maxHeartbeats 8000000 in
theorem cut_l {m : Me} {B : Nat → Nat} {n a z : Nat} {Q : Option Value → Me → Prop} {c2 : Int32} {x5 x6 x7 : Option Value} (hx : Wf12 m.1 (gR m)) (hT : TpM m B n) (hz : z ≤ 400) (hsz : gI m 274 10 = nI z) (hl : inP B n isLt a) (hk : ∀ k, k < 23 → gJ m 281 k = kwM k) (k : ∀ (m' : Me) (l : Int64) (x2 x3 x4 x5 x6 x7 : Option Value), PuM m m' z (nI (rk (tkK B n a))) (nI a) (nI 0) l → (tkK B n a ≤ 23 → l = lN (nkM (lsF B a (en B n isLt a - a)))) → Go mX12_cut Q 7 [some (.ref 274), some (.int (nI (en B n isLt a))), x2, x3, x4, x5, x6, x7] [] m' 0 0) : Go mX12_cut Q 85 [some (.ref 274), some (.int (nI a)), some (.int c2), some (.int (nI 0)), some (.long 0), none, x6, x7] [] m 0 0 := by
  have hn2 := hT.1
  have hla := hl.1
  have tail : ∀ i, 0 < i → i ≤ 2000 → (∀ j, j < i → inP B n isLt (a + j)) → ¬ inP B n isLt (a + i) → Go mX12_cut Q 124 [some (.ref 274), some (.int (nI a)), some (.int c2), some (.int (nI i)), some (.long (lN (nkM (lsF B a (min i 8))))), none, x6, x7] [] m 0 0 := by
    intro i hi0 hi hn hend
    have he : en B n isLt a = a + i := en_u (by omega) (fun j h1 h2 => by have := hn (j - a) (by omega); rw [show a + (j - a) = j by omega] at this; exact this) hend
    have hea : en B n isLt a - a = i := by omega
    have fin : ∀ (v : Nat) (y7 : Option Value), v = rk (tkK B n a) → Go mX12_cut Q 179 [some (.ref 274), some (.int (nI a)), some (.int c2), some (.int (nI i)), some (.long (lN (nkM (lsF B a (min i 8))))), none, some (.int (nI v)), y7] [] m 0 0 := by
      intro v y7 hv
      refine go_aload_n (q := 0) (i := 0) rfl rfl dX12_cut_179 ?_
      refine go_iload (i := 6) rfl dX12_cut_180 ?_
      refine go_iload_n (q := 1) (i := 1) rfl rfl dX12_cut_182 ?_
      refine go_iconst (v := nI 0) (by decide) dX12_cut_183 ?_
      refine go_lload (i := 4) rfl dX12_cut_184 ?_
      refine go_callV okmX12_token lmX12_215 ⟨nle rfl, nle rfl⟩ hx.o ⟨by decide, rfl⟩ (ex_token hx hz hsz) npmX12_token rfl (nle rfl) ⟨nle rfl, nle rfl⟩ dX12_cut_186 ?_
      rintro _ m1 ⟨rfl, hp⟩
      refine go_c0 ?_
      refine go_iload_n (q := 1) (i := 1) rfl rfl dX12_cut_189 ?_
      refine go_iload_n (q := 3) (i := 3) rfl rfl dX12_cut_190 ?_
      refine gn_add dX12_cut_191 ?_
      refine go_istore_n (q := 1) (i := 1) rfl dX12_cut_192 (nle rfl) (nle rfl) ?_
      refine go_goto (tgt := 291) dX12_cut_193 (by decide) ?_
      refine go_goto (tgt := 7) dX12_cut_291 (by decide) ?_
      rw [← he]
      exact k m1 _ _ _ _ _ _ _ (by rw [← hv]; exact hp) (fun h => by
        have h8 := (tkK_23 h).2
        rw [hea] at h8 ⊢
        rw [show min i 8 = i by omega])
    by_cases h8 : 8 < i
    · skip
      refine go_iload_n (q := 3) (i := 3) rfl rfl dX12_cut_124 ?_
      refine go_bipush (v := nI 8) (by decide) dX12_cut_125 ?_
      refine gn_le (by omega) (by omega) (tgt := 134) dX12_cut_127 (by decide) (fun h127 => by exfalso; omega) (fun h127 => ?_)
      refine go_iconst (v := nI 3) (by decide) dX12_cut_130 ?_
      refine go_goto (tgt := 135) dX12_cut_131 (by decide) ?_
      refine go_istore (i := 6) dX12_cut_135 (nle rfl) (nle rfl) ?_
      refine go_iload_n (q := 3) (i := 3) rfl rfl dX12_cut_137 ?_
      refine go_bipush (v := nI 8) (by decide) dX12_cut_138 ?_
      refine gn_gt (by omega) (by omega) (tgt := 179) dX12_cut_140 (by decide) (fun h140 => ?_) (fun h140 => by exfalso; omega)
      exact fin 3 _ (by rw [tkK_l hl, hea, if_pos h8]; rfl)
    · have hlo := lsF_o i hn
      have hmi : min i 8 = i := by omega
      rw [hmi] at fin ⊢
      have keyB : ∀ j, j ≤ 23 → Go mX12_cut Q 146 [some (.ref 274), some (.int (nI a)), some (.int c2), some (.int (nI i)), some (.long (lN (nkM (lsF B a i)))), none, some (.int (nI (kz j (lsF B a i)))), some (.int (nI j))] [] m 0 0 := by
        refine loop_up 23 ?_ ?_
        · skip
          refine go_iload (i := 7) rfl dX12_cut_146 ?_
          refine go_bipush (v := nI 23) (by decide) dX12_cut_148 ?_
          refine gn_ge (by omega) (by omega) (tgt := 179) dX12_cut_150 (by decide) (fun h150 => ?_) (fun h150 => by exfalso; omega)
          exact fin _ _ (by rw [kz_r, tkK_l hl, hea, if_neg h8])
        · intro j hj ihj 
          refine go_iload (i := 7) rfl dX12_cut_146 ?_
          refine go_bipush (v := nI 23) (by decide) dX12_cut_148 ?_
          refine gn_ge (by omega) (by omega) (tgt := 179) dX12_cut_150 (by decide) (fun h150 => by exfalso; omega) (fun h150 => ?_)
          refine go_aload_n (q := 0) (i := 0) rfl rfl dX12_cut_153 ?_
          refine go_getR lf12_34 rfl hx.o hx.r9 dX12_cut_154 ?_
          refine go_iload (i := 7) rfl dX12_cut_157 ?_
          refine go_lald (j := j) hx.i9 (by omega) (by first | decide | omega) rfl dX12_cut_159 ?_
          rw [hk j hj]
          refine go_lload (i := 4) rfl dX12_cut_160 ?_
          refine go_lcmp dX12_cut_162 ?_
          refine go_if_ne (tgt := 173) dX12_cut_163 (by decide) (fun h163 => ?_) (fun h163 => ?_)
          · skip
            refine gn_inc (i := 7) (a := j) (q := 1) rfl dX12_cut_173 (nle rfl) rfl ?_
            refine go_goto (tgt := 146) dX12_cut_176 (by decide) ?_
            rw [kz_n hj (fun z => h163 (cmp_0.mpr ((kwM_e hj hlo (by rw [lsF_len]; omega)).mpr z)))]
            exact ihj
          · skip
            refine go_bipush (v := nI 20) (by decide) dX12_cut_166 ?_
            refine go_iload (i := 7) rfl dX12_cut_168 ?_
            refine gn_add dX12_cut_170 ?_
            refine go_istore (i := 6) dX12_cut_171 (nle rfl) (nle rfl) ?_
            refine gn_inc (i := 7) (a := j) (q := 1) rfl dX12_cut_173 (nle rfl) rfl ?_
            refine go_goto (tgt := 146) dX12_cut_176 (by decide) ?_
            rw [kz_e hj ((kwM_e hj hlo (by rw [lsF_len]; omega)).mp (cmp_0.mp h163))]
            exact ihj
      refine go_iload_n (q := 3) (i := 3) rfl rfl dX12_cut_124 ?_
      refine go_bipush (v := nI 8) (by decide) dX12_cut_125 ?_
      refine gn_le (by omega) (by omega) (tgt := 134) dX12_cut_127 (by decide) (fun h127 => ?_) (fun h127 => by exfalso; omega)
      refine go_iconst (v := nI 1) (by decide) dX12_cut_134 ?_
      refine go_istore (i := 6) dX12_cut_135 (nle rfl) (nle rfl) ?_
      refine go_iload_n (q := 3) (i := 3) rfl rfl dX12_cut_137 ?_
      refine go_bipush (v := nI 8) (by decide) dX12_cut_138 ?_
      refine gn_gt (by omega) (by omega) (tgt := 179) dX12_cut_140 (by decide) (fun h140 => by exfalso; omega) (fun h140 => ?_)
      refine go_iconst (v := nI 0) (by decide) dX12_cut_143 ?_
      refine go_istore (i := 7) dX12_cut_144 (nle rfl) (nle rfl) ?_
      have kb := keyB 0 (Nat.zero_le _)
      rw [show kz 0 (lsF B a i) = 1 from if_neg (Nat.not_lt_zero _)] at kb
      exact kb
  have keyA : ∀ i, i ≤ 2000 → (∀ j, j < i → inP B n isLt (a + j)) → Go mX12_cut Q 85 [some (.ref 274), some (.int (nI a)), some (.int c2), some (.int (nI i)), some (.long (lN (nkM (lsF B a (min i 8))))), none, x6, x7] [] m 0 0 := by
    refine loop_up 2000 ?_ ?_
    · intro hn
      refine go_aload_n (q := 0) (i := 0) rfl rfl dX12_cut_85 ?_
      refine go_iload_n (q := 1) (i := 1) rfl rfl dX12_cut_86 ?_
      refine go_iload_n (q := 3) (i := 3) rfl rfl dX12_cut_87 ?_
      refine gn_add dX12_cut_88 ?_
      refine go_callV okmX12_byteAt lmX12_211 ⟨nle rfl, nle rfl⟩ hx.o ⟨by decide, rfl⟩ (ex_byteAt (i := a + 2000) hx hT (by omega)) npmX12_byteAt rfl (nle rfl) ⟨nle rfl, nle rfl⟩ dX12_cut_89 ?_
      rintro _ mz ⟨rfl, hz⟩
      subst mz
      refine go_c1 ?_
      refine go_callS okmX12_isLetter lmX12_219 ⟨nle rfl, nle rfl⟩ (ex_isLetter) npmX12_isLetter rfl (nle rfl) ⟨nle rfl, nle rfl⟩ dX12_cut_92 ?_
      rintro _ mz ⟨rfl, hz⟩
      subst mz
      rw [lt_m hT.2.2.2, pit_f (fun z => by have := z.1; omega)]
      refine go_c1 ?_
      refine gz_eq (by omega) (tgt := 124) dX12_cut_95 (by decide) (fun h95 => ?_) (fun h95 => by exfalso; omega)
      exact tail 2000 (by omega) (Nat.le_refl _) hn (fun z => by have := z.1; omega)
    · intro i hi ih hn
      refine go_aload_n (q := 0) (i := 0) rfl rfl dX12_cut_85 ?_
      refine go_iload_n (q := 1) (i := 1) rfl rfl dX12_cut_86 ?_
      refine go_iload_n (q := 3) (i := 3) rfl rfl dX12_cut_87 ?_
      refine gn_add dX12_cut_88 ?_
      refine go_callV okmX12_byteAt lmX12_211 ⟨nle rfl, nle rfl⟩ hx.o ⟨by decide, rfl⟩ (ex_byteAt (i := a + i) hx hT (by omega)) npmX12_byteAt rfl (nle rfl) ⟨nle rfl, nle rfl⟩ dX12_cut_89 ?_
      rintro _ mz ⟨rfl, hz⟩
      subst mz
      refine go_c1 ?_
      refine go_callS okmX12_isLetter lmX12_219 ⟨nle rfl, nle rfl⟩ (ex_isLetter) npmX12_isLetter rfl (nle rfl) ⟨nle rfl, nle rfl⟩ dX12_cut_92 ?_
      rintro _ mz ⟨rfl, hz⟩
      subst mz
      rw [lt_m hT.2.2.2]
      by_cases hc : inP B n isLt (a + i)
      · skip
        rw [pit_t hc]
        refine go_c1 ?_
        refine gz_eq (by omega) (tgt := 124) dX12_cut_95 (by decide) (fun h95 => by exfalso; omega) (fun h95 => ?_)
        refine go_iload_n (q := 3) (i := 3) rfl rfl dX12_cut_98 ?_
        refine go_bipush (v := nI 8) (by decide) dX12_cut_99 ?_
        refine gn_ge (by omega) (by omega) (tgt := 118) dX12_cut_101 (by decide) (fun h101 => ?_) (fun h101 => ?_)
        · skip
          refine gn_inc (i := 3) (a := i) (q := 1) rfl dX12_cut_118 (nle rfl) rfl ?_
          refine go_goto (tgt := 85) dX12_cut_121 (by decide) ?_
          have iH := ih (fun j hj => by
            by_cases e : j = i
            · rw [e]; exact hc
            · exact hn j (by omega))
          rw [show min (i + 1) 8 = min i 8 by omega] at iH
          exact iH
        · skip
          refine go_lload (i := 4) rfl dX12_cut_104 ?_
          refine go_aload_n (q := 0) (i := 0) rfl rfl dX12_cut_106 ?_
          refine go_iload_n (q := 1) (i := 1) rfl rfl dX12_cut_107 ?_
          refine go_iload_n (q := 3) (i := 3) rfl rfl dX12_cut_108 ?_
          refine gn_add dX12_cut_109 ?_
          refine go_callV okmX12_byteAt lmX12_211 ⟨nle rfl, nle rfl⟩ hx.o ⟨by decide, rfl⟩ (ex_byteAt (i := a + i) hx hT (by omega)) npmX12_byteAt rfl (nle rfl) ⟨nle rfl, nle rfl⟩ dX12_cut_110 ?_
          rintro _ mz ⟨rfl, hz⟩
          subst mz
          rw [show bM B n (a + i) = nI (B (a + i)) from if_pos hc.1]
          refine go_c1 ?_
          refine go_callS okmX12_appends lmX12_204 ⟨nle rfl, nle rfl⟩ (ex_appends) npmX12_appends rfl (nle rfl) ⟨nle rfl, nle rfl⟩ dX12_cut_113 ?_
          rintro _ mz ⟨rfl, hz⟩
          subst mz
          rw [show min i 8 = i by omega, apS_n hc.2.1 hc.2.2]
          refine go_c1 ?_
          refine go_lstore (i := 4) dX12_cut_116 (nle rfl) (nle rfl) ?_
          refine gn_inc (i := 3) (a := i) (q := 1) rfl dX12_cut_118 (nle rfl) rfl ?_
          refine go_goto (tgt := 85) dX12_cut_121 (by decide) ?_
          have iH := ih (fun j hj => by
            by_cases e : j = i
            · rw [e]; exact hc
            · exact hn j (by omega))
          rw [show min (i + 1) 8 = i + 1 by omega, lsF, nkM_s] at iH
          exact iH
      · skip
        rw [pit_f hc]
        refine go_c1 ?_
        refine gz_eq (by omega) (tgt := 124) dX12_cut_95 (by decide) (fun h95 => ?_) (fun h95 => by exfalso; omega)
        exact tail i (Nat.pos_of_ne_zero (fun z => hc (by rw [z]; exact hl))) (by omega) hn hc
  exact keyA 0 (Nat.zero_le _) (fun j h => absurd h (Nat.not_lt_zero j))
