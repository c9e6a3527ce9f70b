def sgT (j : Nat) : Nat := [59, 61, 43, 45, 42, 47, 60, 40, 41].getD j 0
theorem tx_1 : txL.getD 1 0 = 9 := by decide +kernel
theorem sg_o : ∀ j, j < 9 → ∀ c, c < 256 → (txO 1 (nI c).toInt8.toInt32 j ↔ sgT j = c) := by
  unfold txO
  decide +kernel
theorem sg_k : ∀ j, j < 9 → sgK (sgT j) = 25 + j := by decide +kernel
theorem sg_n : ∀ c, c < 256 → (∀ j, j < 9 → ¬ sgT j = c) → sgK c = 35 := by decide +kernel
theorem sg_q {c : Nat} {q : Int32} (h : c < 256) (k : txF 1 9 (nI c).toInt8.toInt32 q) : (q = -1 ∧ sgK c = 35) ∨ ∃ j, j < 9 ∧ q = nI j ∧ sgK c = 25 + j := by
  rcases k with ⟨j, h1, h2, h3, h4⟩ | ⟨h1, h2⟩
  · have := (sg_o j h1 c h).mp h2
    exact Or.inr ⟨j, h1, h4, by rw [← this]; exact sg_k j h1⟩
  · exact Or.inl ⟨h2, sg_n c h (fun j hj z => h1 j hj ((sg_o j hj c h).mpr z))⟩
theorem i2c_n {c : Nat} (h : c < 256) : ((nI c).toUInt32 % 65536).toInt32 = nI c := by
  have : ∀ c, c < 256 → ((nI c).toUInt32 % 65536).toInt32 = nI c := by decide +kernel
  exact this c h
theorem tkK_s {B : Nat → Nat} {n a : Nat} (h : a < n) (h1 : ¬ isLt (B a)) (h2 : ¬ isDg (B a)) : tkK B n a = sgK (B a) := by
  unfold tkK
  rw [pit_t h, pit_f h1, pit_f h2]
theorem tkK_e {B : Nat → Nat} {n a : Nat} (h : ¬ a < n) : tkK B n a = 34 := by
  unfold tkK
  rw [pit_f h]
theorem VOk.s {B : Nat → Nat} {n a : Nat} {v : Int64} (h1 : ¬ inP B n isLt a) (h2 : ¬ inP B n isDg a) : VOk B n a v := ⟨fun z => absurd z h1, fun z => absurd z h2⟩
/-- the token at a, as it is put -/
def TkO (B : Nat → Nat) (n a z : Nat) (m m' : Me) (o : Option Value) : Prop := ∃ v nx, o = some (.int (nI nx)) ∧ (a < n → nx = tkN B n a) ∧ PutE m m' z (nI (tkK B n a)) v (nI a) ∧ VOk B n a v
set_option maxRecDepth 100000 in
set_option maxHeartbeats 8000000 in
theorem ev_scanToken {m : Me} {B : Nat → Nat} {n a z : Nat} (hw : Wf10 m.1 (gR m) 3) (ht : Wf9 m.1 (gR m) 1) (hT : TpC m B n) (ha : a ≤ n) (hz : z ≤ 400) (hsz : gI m 3 4 = nI z) (hk : ∀ k, k < 23 → gJ m 4 k = kwC k) : Ev mX10_scanToken [.ref 3, .ref 1, .int (nI a)] m (fun o m' => TkO B n a z m m' o) := by
  refine ⟨plmX10_scanToken, nle rfl, ?_⟩
  have hn2 := hT.1
  by_cases hl : inP B n isLt a
  · skip
    refine go_aload_n (q := 1) (i := 1) rfl rfl dX10_scanToken_0 ?_
    refine go_iload_n (q := 2) (i := 2) rfl rfl dX10_scanToken_1 ?_
    refine go_callV okmX9_byteAt lmX10_69 ⟨nle rfl, nle rfl⟩ ht.o ⟨by decide, rfl⟩ (ev_byteAt (i := a) ht hT (by omega)) npmX9_byteAt rfl (nle rfl) ⟨nle rfl, nle rfl⟩ dX10_scanToken_2 ?_
    rintro _ mz ⟨rfl, hz⟩
    subst mz
    refine go_c1 ?_
    refine go_istore_n (q := 3) (i := 3) rfl dX10_scanToken_5 (nle rfl) (nle rfl) ?_
    refine go_iload_n (q := 3) (i := 3) rfl rfl dX10_scanToken_6 ?_
    refine go_callS okmX10_isLetter lmX10_72 ⟨nle rfl, nle rfl⟩ (ev_isLetter) npmX10_isLetter rfl (nle rfl) ⟨nle rfl, nle rfl⟩ dX10_scanToken_7 ?_
    rintro _ mz ⟨rfl, hz⟩
    subst mz
    rw [lt_b hT.2.2.2, pit_t hl]
    refine go_c1 ?_
    refine gz_eq (by omega) (tgt := 20) dX10_scanToken_10 (by decide) (fun h10 => by exfalso; omega) (fun h10 => ?_)
    refine go_aload_n (q := 0) (i := 0) rfl rfl dX10_scanToken_13 ?_
    refine go_aload_n (q := 1) (i := 1) rfl rfl dX10_scanToken_14 ?_
    refine go_iload_n (q := 2) (i := 2) rfl rfl dX10_scanToken_15 ?_
    refine go_callV okmX10_scanLetters lmX10_76 ⟨nle rfl, nle rfl⟩ hw.o ⟨by decide, rfl⟩ (ev_scanLetters hw ht hT hl hz hsz hk) npmX10_scanLetters rfl (nle rfl) ⟨nle rfl, nle rfl⟩ dX10_scanToken_16 ?_
    rintro _ m1 ⟨rfl, v, h1, h2⟩
    refine go_c1 ?_
    refine go_iret rfl ⟨Nat.zero_le _, Nat.zero_le _⟩ dX10_scanToken_19 ?_
    exact ⟨v, _, rfl, fun h => by unfold tkN; rw [pit_t h, pit_t hl.2], h1, h2⟩
  · skip
    by_cases hd : inP B n isDg a
    · skip
      refine go_aload_n (q := 1) (i := 1) rfl rfl dX10_scanToken_0 ?_
      refine go_iload_n (q := 2) (i := 2) rfl rfl dX10_scanToken_1 ?_
      refine go_callV okmX9_byteAt lmX10_69 ⟨nle rfl, nle rfl⟩ ht.o ⟨by decide, rfl⟩ (ev_byteAt (i := a) ht hT (by omega)) npmX9_byteAt rfl (nle rfl) ⟨nle rfl, nle rfl⟩ dX10_scanToken_2 ?_
      rintro _ mz ⟨rfl, hz⟩
      subst mz
      refine go_c1 ?_
      refine go_istore_n (q := 3) (i := 3) rfl dX10_scanToken_5 (nle rfl) (nle rfl) ?_
      refine go_iload_n (q := 3) (i := 3) rfl rfl dX10_scanToken_6 ?_
      refine go_callS okmX10_isLetter lmX10_72 ⟨nle rfl, nle rfl⟩ (ev_isLetter) npmX10_isLetter rfl (nle rfl) ⟨nle rfl, nle rfl⟩ dX10_scanToken_7 ?_
      rintro _ mz ⟨rfl, hz⟩
      subst mz
      rw [lt_b hT.2.2.2, pit_f hl]
      refine go_c1 ?_
      refine gz_eq (by omega) (tgt := 20) dX10_scanToken_10 (by decide) (fun h10 => ?_) (fun h10 => by exfalso; omega)
      refine go_iload_n (q := 3) (i := 3) rfl rfl dX10_scanToken_20 ?_
      refine go_callS okmX10_isDigit lmX10_79 ⟨nle rfl, nle rfl⟩ (ev_isDigit) npmX10_isDigit rfl (nle rfl) ⟨nle rfl, nle rfl⟩ dX10_scanToken_21 ?_
      rintro _ mz ⟨rfl, hz⟩
      subst mz
      rw [dg_b hT.2.2.2, pit_t hd]
      refine go_c1 ?_
      refine gz_eq (by omega) (tgt := 34) dX10_scanToken_24 (by decide) (fun h24 => by exfalso; omega) (fun h24 => ?_)
      refine go_aload_n (q := 0) (i := 0) rfl rfl dX10_scanToken_27 ?_
      refine go_aload_n (q := 1) (i := 1) rfl rfl dX10_scanToken_28 ?_
      refine go_iload_n (q := 2) (i := 2) rfl rfl dX10_scanToken_29 ?_
      refine go_callV okmX10_scanDigits lmX10_82 ⟨nle rfl, nle rfl⟩ hw.o ⟨by decide, rfl⟩ (ev_scanDigits hw ht hT hd hz hsz) npmX10_scanDigits rfl (nle rfl) ⟨nle rfl, nle rfl⟩ dX10_scanToken_30 ?_
      rintro _ m1 ⟨rfl, v, h1, h2⟩
      refine go_c1 ?_
      refine go_iret rfl ⟨Nat.zero_le _, Nat.zero_le _⟩ dX10_scanToken_33 ?_
      exact ⟨v, _, rfl, fun h => by unfold tkN; rw [pit_t h, pit_f (fun z => hl ⟨h, z⟩), pit_t hd.2], h1, h2⟩
    · skip
      by_cases hn : a < n
      · skip
        have hb := hT.2.2.2 a
        have hb : B a < 256 := hb
        have hbe : bS B n a = nI (B a) := if_pos hn
        have hn1 : ¬ nI (B a) = -1 := fun z => by have := congrArg Int32.toInt z; rw [nI_toInt (by omega)] at this; rw [show (-1 : Int32).toInt = -1 by decide] at this; omega
        rw [← hbe] at hn1
        refine go_aload_n (q := 1) (i := 1) rfl rfl dX10_scanToken_0 ?_
        refine go_iload_n (q := 2) (i := 2) rfl rfl dX10_scanToken_1 ?_
        refine go_callV okmX9_byteAt lmX10_69 ⟨nle rfl, nle rfl⟩ ht.o ⟨by decide, rfl⟩ (ev_byteAt (i := a) ht hT (by omega)) npmX9_byteAt rfl (nle rfl) ⟨nle rfl, nle rfl⟩ dX10_scanToken_2 ?_
        rintro _ mz ⟨rfl, hz⟩
        subst mz
        refine go_c1 ?_
        refine go_istore_n (q := 3) (i := 3) rfl dX10_scanToken_5 (nle rfl) (nle rfl) ?_
        refine go_iload_n (q := 3) (i := 3) rfl rfl dX10_scanToken_6 ?_
        refine go_callS okmX10_isLetter lmX10_72 ⟨nle rfl, nle rfl⟩ (ev_isLetter) npmX10_isLetter rfl (nle rfl) ⟨nle rfl, nle rfl⟩ dX10_scanToken_7 ?_
        rintro _ mz ⟨rfl, hz⟩
        subst mz
        rw [lt_b hT.2.2.2, pit_f hl]
        refine go_c1 ?_
        refine gz_eq (by omega) (tgt := 20) dX10_scanToken_10 (by decide) (fun h10 => ?_) (fun h10 => by exfalso; omega)
        refine go_iload_n (q := 3) (i := 3) rfl rfl dX10_scanToken_20 ?_
        refine go_callS okmX10_isDigit lmX10_79 ⟨nle rfl, nle rfl⟩ (ev_isDigit) npmX10_isDigit rfl (nle rfl) ⟨nle rfl, nle rfl⟩ dX10_scanToken_21 ?_
        rintro _ mz ⟨rfl, hz⟩
        subst mz
        rw [dg_b hT.2.2.2, pit_f hd]
        refine go_c1 ?_
        refine gz_eq (by omega) (tgt := 34) dX10_scanToken_24 (by decide) (fun h24 => ?_) (fun h24 => by exfalso; omega)
        refine go_iload_n (q := 3) (i := 3) rfl rfl dX10_scanToken_34 ?_
        refine go_iconst (v := -1) (by decide) dX10_scanToken_35 ?_
        refine go_icmp_ne (tgt := 43) dX10_scanToken_36 (by decide) (fun h36 => ?_) (fun h36 => absurd h36 (hn1))
        refine go_ldcT1 rfl dX10_scanToken_43 ?_
        refine go_iload_n (q := 3) (i := 3) rfl rfl dX10_scanToken_45 ?_
        refine go_i2c dX10_scanToken_46 ?_
        rw [hbe, i2c_n hb]
        refine go_callT (i := 1) (by decide) rfl okmJ0_indexOf_0f7a4 lmX10_87 ⟨nle rfl, nle rfl⟩ (ev_sIo (i := 1) (by decide) tx_1 (by decide) (by decide) hb) npmJ0_indexOf_0f7a4 rfl (nle rfl) ⟨nle rfl, nle rfl⟩ dX10_scanToken_47 ?_
        rintro _ mz ⟨⟨q, rfl, hq⟩, hz'⟩
        subst mz
        rcases sg_q hb hq with ⟨rfl, hk'⟩ | ⟨j, hj, rfl, hk'⟩
        · skip
          refine go_c1 ?_
          refine go_istore (i := 4) dX10_scanToken_50 (nle rfl) (nle rfl) ?_
          refine go_iload_n (q := 3) (i := 3) rfl rfl dX10_scanToken_52 ?_
          refine go_iconst (v := -1) (by decide) dX10_scanToken_53 ?_
          refine go_icmp_ne (tgt := 68) dX10_scanToken_54 (by decide) (fun h54 => ?_) (fun h54 => absurd h54 (fun z => hn1 (hbe.trans z)))
          refine go_aload_n (q := 0) (i := 0) rfl rfl dX10_scanToken_68 ?_
          refine go_iload (i := 4) rfl dX10_scanToken_69 ?_
          refine go_if_ge (tgt := 79) dX10_scanToken_71 (by decide) (fun h71 => by exfalso; exact absurd h71 (by decide)) (fun h71 => ?_)
          refine go_bipush (v := nI 35) (by decide) dX10_scanToken_74 ?_
          refine go_goto (tgt := 84) dX10_scanToken_76 (by decide) ?_
          refine go_lconst (v := 0) (by decide) dX10_scanToken_84 ?_
          refine go_iload_n (q := 2) (i := 2) rfl rfl dX10_scanToken_85 ?_
          refine go_callV okmX10_put lmX10_90 ⟨nle rfl, nle rfl⟩ hw.o ⟨by decide, rfl⟩ (ev_put hw hz hsz) npmX10_put rfl (nle rfl) ⟨nle rfl, nle rfl⟩ dX10_scanToken_86 ?_
          rintro _ m1 ⟨rfl, p1, p2, p3, p4, p5⟩
          refine go_c0 ?_
          refine go_iload_n (q := 2) (i := 2) rfl rfl dX10_scanToken_89 ?_
          refine go_iconst (v := nI 1) (by decide) dX10_scanToken_90 ?_
          refine gn_add dX10_scanToken_91 ?_
          refine go_iret rfl ⟨Nat.zero_le _, Nat.zero_le _⟩ dX10_scanToken_92 ?_
          exact ⟨_, _, rfl, fun h => by unfold tkN; rw [pit_t h, pit_f (fun z => hl ⟨h, z⟩), pit_f (fun z => hd ⟨h, z⟩)], by rw [tkK_s hn (fun z => hl ⟨hn, z⟩) (fun z => hd ⟨hn, z⟩), hk']; exact ⟨p1, p2, p3, p4, p5⟩, VOk.s hl hd⟩
        · skip
          refine go_c1 ?_
          refine go_istore (i := 4) dX10_scanToken_50 (nle rfl) (nle rfl) ?_
          refine go_iload_n (q := 3) (i := 3) rfl rfl dX10_scanToken_52 ?_
          refine go_iconst (v := -1) (by decide) dX10_scanToken_53 ?_
          refine go_icmp_ne (tgt := 68) dX10_scanToken_54 (by decide) (fun h54 => ?_) (fun h54 => absurd h54 (fun z => hn1 (hbe.trans z)))
          refine go_aload_n (q := 0) (i := 0) rfl rfl dX10_scanToken_68 ?_
          refine go_iload (i := 4) rfl dX10_scanToken_69 ?_
          refine gz_ge (by omega) (tgt := 79) dX10_scanToken_71 (by decide) (fun h71 => ?_) (fun h71 => by exfalso; omega)
          refine go_bipush (v := nI 25) (by decide) dX10_scanToken_79 ?_
          refine go_iload (i := 4) rfl dX10_scanToken_81 ?_
          refine gn_add dX10_scanToken_83 ?_
          refine go_lconst (v := 0) (by decide) dX10_scanToken_84 ?_
          refine go_iload_n (q := 2) (i := 2) rfl rfl dX10_scanToken_85 ?_
          refine go_callV okmX10_put lmX10_90 ⟨nle rfl, nle rfl⟩ hw.o ⟨by decide, rfl⟩ (ev_put hw hz hsz) npmX10_put rfl (nle rfl) ⟨nle rfl, nle rfl⟩ dX10_scanToken_86 ?_
          rintro _ m1 ⟨rfl, p1, p2, p3, p4, p5⟩
          refine go_c0 ?_
          refine go_iload_n (q := 2) (i := 2) rfl rfl dX10_scanToken_89 ?_
          refine go_iconst (v := nI 1) (by decide) dX10_scanToken_90 ?_
          refine gn_add dX10_scanToken_91 ?_
          refine go_iret rfl ⟨Nat.zero_le _, Nat.zero_le _⟩ dX10_scanToken_92 ?_
          exact ⟨_, _, rfl, fun h => by unfold tkN; rw [pit_t h, pit_f (fun z => hl ⟨h, z⟩), pit_f (fun z => hd ⟨h, z⟩)], by rw [tkK_s hn (fun z => hl ⟨hn, z⟩) (fun z => hd ⟨hn, z⟩), hk']; exact ⟨p1, p2, p3, p4, p5⟩, VOk.s hl hd⟩
      · skip
        have hbe : bS B n a = -1 := if_neg hn
        refine go_aload_n (q := 1) (i := 1) rfl rfl dX10_scanToken_0 ?_
        refine go_iload_n (q := 2) (i := 2) rfl rfl dX10_scanToken_1 ?_
        refine go_callV okmX9_byteAt lmX10_69 ⟨nle rfl, nle rfl⟩ ht.o ⟨by decide, rfl⟩ (ev_byteAt (i := a) ht hT (by omega)) npmX9_byteAt rfl (nle rfl) ⟨nle rfl, nle rfl⟩ dX10_scanToken_2 ?_
        rintro _ mz ⟨rfl, hz⟩
        subst mz
        refine go_c1 ?_
        refine go_istore_n (q := 3) (i := 3) rfl dX10_scanToken_5 (nle rfl) (nle rfl) ?_
        refine go_iload_n (q := 3) (i := 3) rfl rfl dX10_scanToken_6 ?_
        refine go_callS okmX10_isLetter lmX10_72 ⟨nle rfl, nle rfl⟩ (ev_isLetter) npmX10_isLetter rfl (nle rfl) ⟨nle rfl, nle rfl⟩ dX10_scanToken_7 ?_
        rintro _ mz ⟨rfl, hz⟩
        subst mz
        rw [lt_b hT.2.2.2, pit_f hl]
        refine go_c1 ?_
        refine gz_eq (by omega) (tgt := 20) dX10_scanToken_10 (by decide) (fun h10 => ?_) (fun h10 => by exfalso; omega)
        refine go_iload_n (q := 3) (i := 3) rfl rfl dX10_scanToken_20 ?_
        refine go_callS okmX10_isDigit lmX10_79 ⟨nle rfl, nle rfl⟩ (ev_isDigit) npmX10_isDigit rfl (nle rfl) ⟨nle rfl, nle rfl⟩ dX10_scanToken_21 ?_
        rintro _ mz ⟨rfl, hz⟩
        subst mz
        rw [dg_b hT.2.2.2, pit_f hd]
        refine go_c1 ?_
        refine gz_eq (by omega) (tgt := 34) dX10_scanToken_24 (by decide) (fun h24 => ?_) (fun h24 => by exfalso; omega)
        refine go_iload_n (q := 3) (i := 3) rfl rfl dX10_scanToken_34 ?_
        refine go_iconst (v := -1) (by decide) dX10_scanToken_35 ?_
        refine go_icmp_ne (tgt := 43) dX10_scanToken_36 (by decide) (fun h36 => absurd h36 (fun z => z hbe)) (fun h36 => ?_)
        refine go_iconst (v := -1) (by decide) dX10_scanToken_39 ?_
        refine go_goto (tgt := 50) dX10_scanToken_40 (by decide) ?_
        refine go_istore (i := 4) dX10_scanToken_50 (nle rfl) (nle rfl) ?_
        refine go_iload_n (q := 3) (i := 3) rfl rfl dX10_scanToken_52 ?_
        refine go_iconst (v := -1) (by decide) dX10_scanToken_53 ?_
        refine go_icmp_ne (tgt := 68) dX10_scanToken_54 (by decide) (fun h54 => absurd h54 (fun z => z hbe)) (fun h54 => ?_)
        refine go_aload_n (q := 0) (i := 0) rfl rfl dX10_scanToken_57 ?_
        refine go_bipush (v := nI 34) (by decide) dX10_scanToken_58 ?_
        refine go_lconst (v := 0) (by decide) dX10_scanToken_60 ?_
        refine go_iload_n (q := 2) (i := 2) rfl rfl dX10_scanToken_61 ?_
        refine go_callV okmX10_put lmX10_90 ⟨nle rfl, nle rfl⟩ hw.o ⟨by decide, rfl⟩ (ev_put hw hz hsz) npmX10_put rfl (nle rfl) ⟨nle rfl, nle rfl⟩ dX10_scanToken_62 ?_
        rintro _ m1 ⟨rfl, p1, p2, p3, p4, p5⟩
        refine go_c0 ?_
        refine go_goto (tgt := 89) dX10_scanToken_65 (by decide) ?_
        refine go_iload_n (q := 2) (i := 2) rfl rfl dX10_scanToken_89 ?_
        refine go_iconst (v := nI 1) (by decide) dX10_scanToken_90 ?_
        refine gn_add dX10_scanToken_91 ?_
        refine go_iret rfl ⟨Nat.zero_le _, Nat.zero_le _⟩ dX10_scanToken_92 ?_
        exact ⟨_, _, rfl, fun h => absurd h hn, by rw [tkK_e hn]; exact ⟨p1, p2, p3, p4, p5⟩, VOk.s hl hd⟩
theorem updL_same {f : Nat → Int64} {i : Nat} {v : Int64} : vp_updL f i v i = v := by simp [vp_updL]
theorem updL_ne {f : Nat → Int64} {i k : Nat} {v : Int64} (h : k ≠ i) : vp_updL f i v k = f k := by simp [vp_updL, h]
theorem upd_same {f : Nat → Int32} {i : Nat} {v : Int32} : upd f i v i = v := by simp [upd]
/-- the first z tokens, as they are held -/
def TkS (m : Me) (B : Nat → Nat) (n z : Nat) : Prop := gI m 3 4 = nI z ∧ ∀ j, j < z → gI m 5 j = nI (tK B n j) ∧ gI m 7 j = nI (tP B n j) ∧ (tK B n j = 23 → gJ m 6 j = lN (nkC (tL B n j))) ∧ (tK B n j = 24 → gJ m 6 j = lN (tD B n j))
theorem sgK_ge (c : Nat) : 25 ≤ sgK c := by
  unfold sgK
  repeat' split
  all_goals decide
theorem kwI_le (l : List Nat) : kwI l ≤ 23 := by
  rcases kwI_s l with ⟨a, b⟩ | ⟨a, b⟩ <;> omega
theorem tkK_23 {B : Nat → Nat} {n a : Nat} (h : tkK B n a ≤ 23) : inP B n isLt a ∧ en B n isLt a - a ≤ 8 := by
  unfold tkK at h
  by_cases h1 : a < n
  · rw [pit_t h1] at h
    by_cases h2 : isLt (B a)
    · rw [pit_t h2] at h
      refine ⟨⟨h1, h2⟩, ?_⟩
      by_cases h3 : 8 < en B n isLt a - a
      · rw [if_pos h3] at h; omega
      · omega
    · rw [pit_f h2] at h
      by_cases h3 : isDg (B a)
      · rw [pit_t h3] at h
        split at h <;> omega
      · rw [pit_f h3] at h
        have := sgK_ge (B a)
        omega
  · rw [pit_f h1] at h; omega
theorem tkK_24 {B : Nat → Nat} {n a : Nat} (h : tkK B n a = 24) : inP B n isDg a ∧ en B n isDg a - a ≤ 4 := by
  unfold tkK at h
  by_cases h1 : a < n
  · rw [pit_t h1] at h
    by_cases h2 : isLt (B a)
    · rw [pit_t h2] at h
      have := kwI_le (lsF B a (en B n isLt a - a))
      split at h <;> omega
    · rw [pit_f h2] at h
      by_cases h3 : isDg (B a)
      · rw [pit_t h3] at h
        refine ⟨⟨h1, h3⟩, ?_⟩
        by_cases h4 : 4 < en B n isDg a - a
        · rw [if_pos h4] at h; omega
        · omega
      · rw [pit_f h3] at h
        have := sgK_ge (B a)
        omega
  · rw [pit_f h1] at h; omega
theorem tkK_lt {B : Nat → Nat} {n a : Nat} (h : tkK B n a < 34) : a < n := by
  by_cases h1 : a < n
  · exact h1
  · rw [tkK_e h1] at h; omega
theorem TkS.put {m m' : Me} {B : Nat → Nat} {n z : Nat} {v : Int64} (h : TkS m B n z) (hp : PutE m m' z (nI (tkK B n (tP B n z))) v (nI (tP B n z))) (hv : VOk B n (tP B n z) v) : TkS m' B n (z + 1) := by
  obtain ⟨p1, p2, p3, p4, p5⟩ := hp
  refine ⟨by rw [p2]; exact upd_same, fun j hj => ?_⟩
  by_cases e : j = z
  · subst e
    rw [p3, p4, p5, upd_same, upd_same, updL_same]
    refine ⟨rfl, rfl, fun h => ?_, fun h => ?_⟩
    · have := tkK_23 (Nat.le_of_eq h)
      exact hv.1 this.1 this.2
    · have := tkK_24 h
      exact hv.2 this.1 this.2
  · rw [p3, p4, p5, upd_ne e, upd_ne e, updL_ne e]
    exact h.2 j (by omega)
set_option maxRecDepth 100000 in
set_option maxHeartbeats 4000000 in
theorem ev_kindAt {m : Me} {z j : Nat} (hw : Wf10 m.1 (gR m) 3) (hsz : gI m 3 4 = nI z) (hz : z ≤ 401) (hj : j ≤ 2000) : Ev mX10_kindAt [.ref 3, .int (nI j)] m (fun o m' => o = some (.int (if j < z then gI m 5 j else nI 34)) ∧ m' = m) := by
  refine ⟨plmX10_kindAt, nle rfl, ?_⟩
  refine go_iload_n (q := 1) (i := 1) rfl rfl dX10_kindAt_0 ?_
  refine gz_lt (by omega) (tgt := 19) dX10_kindAt_1 (by decide) (fun h1 => by exfalso; omega) (fun h1 => ?_)
  refine go_iload_n (q := 1) (i := 1) rfl rfl dX10_kindAt_4 ?_
  refine go_aload_n (q := 0) (i := 0) rfl rfl dX10_kindAt_5 ?_
  refine go_getI lf10_45 rfl hw.o dX10_kindAt_6 ?_
  rw [hsz]
  refine gn_ge (by omega) (by omega) (tgt := 19) dX10_kindAt_9 (by decide) (fun h9 => ?_) (fun h9 => ?_)
  · skip
    refine go_bipush (v := nI 34) (by decide) dX10_kindAt_19 ?_
    refine go_goto (tgt := 30) dX10_kindAt_21 (by decide) ?_
    refine go_iret rfl ⟨Nat.zero_le _, Nat.zero_le _⟩ dX10_kindAt_30 ?_
    exact ⟨by rw [if_neg (by omega)], rfl⟩
  · skip
    refine go_iload_n (q := 1) (i := 1) rfl rfl dX10_kindAt_12 ?_
    refine go_sipush (v := nI 400) (by decide) dX10_kindAt_13 ?_
    refine gn_le (by omega) (by omega) (tgt := 24) dX10_kindAt_16 (by decide) (fun h16 => ?_) (fun h16 => by exfalso; omega)
    refine go_aload_n (q := 0) (i := 0) rfl rfl dX10_kindAt_24 ?_
    refine go_getR lf10_15 rfl hw.o hw.r1 dX10_kindAt_25 ?_
    refine go_iload_n (q := 1) (i := 1) rfl rfl dX10_kindAt_28 ?_
    refine go_iald (j := j) hw.i1 (by omega) (by first | decide | omega) rfl dX10_kindAt_29 ?_
    refine go_iret rfl ⟨Nat.zero_le _, Nat.zero_le _⟩ dX10_kindAt_30 ?_
    exact ⟨by rw [if_pos (by omega)], rfl⟩
set_option maxRecDepth 100000 in
set_option maxHeartbeats 4000000 in
theorem ev_placeAt {m : Me} {z j : Nat} (hw : Wf10 m.1 (gR m) 3) (hsz : gI m 3 4 = nI z) (hz : z ≤ 401) (hj : j ≤ 2000) : Ev mX10_placeAt [.ref 3, .int (nI j)] m (fun o m' => o = some (.int (if j < z then gI m 7 j else gI m 3 5)) ∧ m' = m) := by
  refine ⟨plmX10_placeAt, nle rfl, ?_⟩
  refine go_iload_n (q := 1) (i := 1) rfl rfl dX10_placeAt_0 ?_
  refine gz_lt (by omega) (tgt := 19) dX10_placeAt_1 (by decide) (fun h1 => by exfalso; omega) (fun h1 => ?_)
  refine go_iload_n (q := 1) (i := 1) rfl rfl dX10_placeAt_4 ?_
  refine go_aload_n (q := 0) (i := 0) rfl rfl dX10_placeAt_5 ?_
  refine go_getI lf10_45 rfl hw.o dX10_placeAt_6 ?_
  rw [hsz]
  refine gn_ge (by omega) (by omega) (tgt := 19) dX10_placeAt_9 (by decide) (fun h9 => ?_) (fun h9 => ?_)
  · skip
    refine go_aload_n (q := 0) (i := 0) rfl rfl dX10_placeAt_19 ?_
    refine go_getI lf10_55 rfl hw.o dX10_placeAt_20 ?_
    refine go_goto (tgt := 32) dX10_placeAt_23 (by decide) ?_
    refine go_iret rfl ⟨Nat.zero_le _, Nat.zero_le _⟩ dX10_placeAt_32 ?_
    exact ⟨by rw [if_neg (by omega)], rfl⟩
  · skip
    refine go_iload_n (q := 1) (i := 1) rfl rfl dX10_placeAt_12 ?_
    refine go_sipush (v := nI 400) (by decide) dX10_placeAt_13 ?_
    refine gn_le (by omega) (by omega) (tgt := 26) dX10_placeAt_16 (by decide) (fun h16 => ?_) (fun h16 => by exfalso; omega)
    refine go_aload_n (q := 0) (i := 0) rfl rfl dX10_placeAt_26 ?_
    refine go_getR lf10_22 rfl hw.o hw.r3 dX10_placeAt_27 ?_
    refine go_iload_n (q := 1) (i := 1) rfl rfl dX10_placeAt_30 ?_
    refine go_iald (j := j) hw.i3 (by omega) (by first | decide | omega) rfl dX10_placeAt_31 ?_
    refine go_iret rfl ⟨Nat.zero_le _, Nat.zero_le _⟩ dX10_placeAt_32 ?_
    exact ⟨by rw [if_pos (by omega)], rfl⟩
set_option maxRecDepth 100000 in
set_option maxHeartbeats 4000000 in
theorem ev_valueAt {m : Me} {z j : Nat} (hw : Wf10 m.1 (gR m) 3) (hsz : gI m 3 4 = nI z) (hz : z ≤ 401) (hj : j ≤ 2000) : Ev mX10_valueAt [.ref 3, .int (nI j)] m (fun o m' => o = some (.long (if j < z then gJ m 6 j else 0)) ∧ m' = m) := by
  refine ⟨plmX10_valueAt, nle rfl, ?_⟩
  refine go_iload_n (q := 1) (i := 1) rfl rfl dX10_valueAt_0 ?_
  refine gz_lt (by omega) (tgt := 19) dX10_valueAt_1 (by decide) (fun h1 => by exfalso; omega) (fun h1 => ?_)
  refine go_iload_n (q := 1) (i := 1) rfl rfl dX10_valueAt_4 ?_
  refine go_aload_n (q := 0) (i := 0) rfl rfl dX10_valueAt_5 ?_
  refine go_getI lf10_45 rfl hw.o dX10_valueAt_6 ?_
  rw [hsz]
  refine gn_ge (by omega) (by omega) (tgt := 19) dX10_valueAt_9 (by decide) (fun h9 => ?_) (fun h9 => ?_)
  · skip
    refine go_lconst (v := 0) (by decide) dX10_valueAt_19 ?_
    refine go_goto (tgt := 29) dX10_valueAt_20 (by decide) ?_
    refine go_lret rfl ⟨Nat.zero_le _, Nat.zero_le _⟩ dX10_valueAt_29 ?_
    exact ⟨by rw [if_neg (by omega)], rfl⟩
  · skip
    refine go_iload_n (q := 1) (i := 1) rfl rfl dX10_valueAt_12 ?_
    refine go_sipush (v := nI 400) (by decide) dX10_valueAt_13 ?_
    refine gn_le (by omega) (by omega) (tgt := 23) dX10_valueAt_16 (by decide) (fun h16 => ?_) (fun h16 => by exfalso; omega)
    refine go_aload_n (q := 0) (i := 0) rfl rfl dX10_valueAt_23 ?_
    refine go_getR lf10_19 rfl hw.o hw.r2 dX10_valueAt_24 ?_
    refine go_iload_n (q := 1) (i := 1) rfl rfl dX10_valueAt_27 ?_
    refine go_lald (j := j) hw.i2 (by omega) (by first | decide | omega) rfl dX10_valueAt_28 ?_
    refine go_lret rfl ⟨Nat.zero_le _, Nat.zero_le _⟩ dX10_valueAt_29 ?_
    exact ⟨by rw [if_pos (by omega)], rfl⟩
