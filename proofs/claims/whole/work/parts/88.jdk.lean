theorem go_aloadT {M : MD} {Q : Option Value → Me → Prop} {pc : Nat} {L : List (Option Value)} {S : List Value} {m : Me} {cc zz : Nat} {q : Fin 4} {i j k : Nat} (hj : j < 2) (hk : k = 2 * j ∨ k = 2 * j + 1) (hi : (q : Nat) = i) (hL : L[i]? = some (some (.retAddr k))) (d : decode M.b pc = .ok (.aload_n q, 1)) (k0 : Go M Q (pc + 1) L (.retAddr k :: S) m cc zz) : Go M Q pc L S m cc zz := by
  intro D ty b p l e s mm args below meth c C H locs ls hl hH hS
  obtain ⟨adK, adV, h4, h5⟩ := cx_tx C
  have he : ∃ a, cv b (.retAddr k) = .ref a := by
    rcases hk with rfl | rfl
    · exact ⟨_, cv_K (h4 j hj).1⟩
    · exact ⟨_, cv_K (h4 j hj).2⟩
  obtain ⟨a, he⟩ := he
  have kk := k0 D ty b p l e s mm args below meth c C H locs ls hl hH hS
  rw [List.map_cons, he] at kk
  have hq := lvl_at hl hL
  rw [he] at hq
  exact lv_aload_n C.1 C.2.1 d hi hq kk
theorem go_bret {M : MD} {Q : Option Value → Me → Prop} {pc : Nat} {L : List (Option Value)} {m : Me} {cc zz : Nat} {v : Int32} (hr : M.rt = some .byte) (hn : narrow .byte (.int v) = .int v) (hcap : cc ≤ M.mc ∧ zz ≤ M.ms) (d : decode M.b pc = .ok (.ireturn, 1)) (hQ : Q (some (.int v)) m) : Go M Q pc L [.int v] m cc zz := by
  intro D ty b p l e s mm args below meth c C H locs ls hl hH hS
  exact W.widen hcap.1 hcap.2 (W.zret (v := v) C.1 C.2.1 (C.2.2.2.1.trans hr) hn (fun t ht hW => ⟨⟨some (.int v), m, rfl, hQ, by rw [ht]; exact hH⟩, hS.F ht⟩) hS.2.2 d C.2.2.2.2.2.2.1)
set_option maxRecDepth 100000 in
set_option maxHeartbeats 4000000 in
theorem ev_sCoder {m : Me} {i : Nat} (h2 : i < 2) : Ev mJ0_coder_7d493 [.retAddr (2 * i)] m (fun o m' => o = some (.int (0)) ∧ m' = m) := by
  refine ⟨plmJ0_coder_7d493, nle rfl, ?_⟩
  refine go_sCS rfl lkCS dJ0_coder_7d493_0 ?_
  refine go_if_eq (tgt := 13) dJ0_coder_7d493_3 (by decide) (fun h3 => absurd h3 ((by decide))) (fun h3 => ?_)
  refine go_aloadT (q := 0) (i := 0) h2 (Or.inl rfl) rfl rfl dJ0_coder_7d493_6 ?_
  refine go_scod (i := i) h2 rfl lkCod dJ0_coder_7d493_7 ?_
  refine go_goto (tgt := 14) dJ0_coder_7d493_10 (by decide) ?_
  refine go_bret rfl (by decide) ⟨Nat.zero_le _, Nat.zero_le _⟩ dJ0_coder_7d493_14 ?_
  exact ⟨rfl, rfl⟩
set_option maxRecDepth 100000 in
set_option maxHeartbeats 4000000 in
theorem ev_sLatin {m : Me} {i : Nat} (h2 : i < 2) : Ev mJ0_isLatin1_aae02 [.retAddr (2 * i)] m (fun o m' => o = some (.int (nI 1)) ∧ m' = m) := by
  refine ⟨plmJ0_isLatin1_aae02, nle rfl, ?_⟩
  refine go_sCS rfl lkCS dJ0_isLatin1_aae02_0 ?_
  refine go_if_eq (tgt := 17) dJ0_isLatin1_aae02_3 (by decide) (fun h3 => absurd h3 ((by decide))) (fun h3 => ?_)
  refine go_aloadT (q := 0) (i := 0) h2 (Or.inl rfl) rfl rfl dJ0_isLatin1_aae02_6 ?_
  refine go_scod (i := i) h2 rfl lkCod dJ0_isLatin1_aae02_7 ?_
  refine go_if_ne (tgt := 17) dJ0_isLatin1_aae02_10 (by decide) (fun h10 => absurd h10 (fun z => z rfl)) (fun h10 => ?_)
  refine go_iconst (v := nI 1) (by decide) dJ0_isLatin1_aae02_13 ?_
  refine go_goto (tgt := 18) dJ0_isLatin1_aae02_14 (by decide) ?_
  refine go_zret rfl (by decide) ⟨Nat.zero_le _, Nat.zero_le _⟩ dJ0_isLatin1_aae02_18 ?_
  exact ⟨rfl, rfl⟩
set_option maxRecDepth 100000 in
set_option maxHeartbeats 4000000 in
theorem ev_sLength {m : Me} {i L : Nat} (h2 : i < 2) (hL : txL.getD i 0 = L) (hL2 : L ≤ 1000) (hL1 : 0 < L) : Ev mJ0_length_8abf5 [.retAddr (2 * i)] m (fun o m' => o = some (.int (nI L)) ∧ m' = m) := by
  refine ⟨plmJ0_length_8abf5, nle rfl, ?_⟩
  refine go_aloadT (q := 0) (i := 0) h2 (Or.inl rfl) rfl rfl dJ0_length_8abf5_0 ?_
  refine go_sval (i := i) h2 rfl lkVal dJ0_length_8abf5_1 ?_
  refine go_slen (i := i) h2 dJ0_length_8abf5_4 ?_
  rw [hL]
  refine go_aloadT (q := 0) (i := 0) h2 (Or.inl rfl) rfl rfl dJ0_length_8abf5_5 ?_
  refine go_callT (i := i) h2 rfl okmJ0_coder_7d493 lmJ0_335 ⟨nle rfl, nle rfl⟩ (ev_sCoder h2) npmJ0_coder_7d493 rfl (nle rfl) ⟨nle rfl, nle rfl⟩ dJ0_length_8abf5_6 ?_
  rintro _ mz ⟨rfl, hz⟩
  subst mz
  refine go_c1 ?_
  refine go_ishr dJ0_length_8abf5_9 ?_
  refine go_iret rfl ⟨Nat.zero_le _, Nat.zero_le _⟩ dJ0_length_8abf5_10 ?_
  refine ⟨?_, rfl⟩
  rw [show (0 : Int32) &&& 31 = 0 from rfl, show ∀ x : Int32, x >>> (0 : Int32) = x from fun x => by apply Int32.toBitVec.inj; rw [Int32.toBitVec_shiftRight]; simp]
set_option maxRecDepth 100000 in
set_option maxHeartbeats 4000000 in
theorem ev_pCheck {m : Me} {j L : Nat} (hj : j < L) (hL2 : L ≤ 1000) : Ev mJ3_checkIndex_8e157 [.int (nI j), .int (nI L), .retAddr 100] m (fun o m' => o = some (.int (nI j)) ∧ m' = m) := by
  refine ⟨plmJ3_checkIndex_8e157, nle rfl, ?_⟩
  refine go_iload_n (q := 0) (i := 0) rfl rfl dJ3_checkIndex_8e157_0 ?_
  refine gz_lt (by omega) (tgt := 9) dJ3_checkIndex_8e157_1 (by decide) (fun h1 => by exfalso; omega) (fun h1 => ?_)
  refine go_iload_n (q := 0) (i := 0) rfl rfl dJ3_checkIndex_8e157_4 ?_
  refine go_iload_n (q := 1) (i := 1) rfl rfl dJ3_checkIndex_8e157_5 ?_
  refine gn_lt (by omega) (by omega) (tgt := 16) dJ3_checkIndex_8e157_6 (by decide) (fun h6 => ?_) (fun h6 => by exfalso; omega)
  refine go_iload_n (q := 0) (i := 0) rfl rfl dJ3_checkIndex_8e157_16 ?_
  refine go_iret rfl ⟨Nat.zero_le _, Nat.zero_le _⟩ dJ3_checkIndex_8e157_17 ?_
  exact ⟨rfl, rfl⟩
set_option maxRecDepth 100000 in
set_option maxHeartbeats 4000000 in
theorem ev_sCheck {m : Me} {j L : Nat} (hj : j < L) (hL2 : L ≤ 1000) : Ev mJ0_checkIndex_df160 [.int (nI j), .int (nI L)] m (fun o m' => o = none ∧ m' = m) := by
  refine ⟨plmJ0_checkIndex_df160, nle rfl, ?_⟩
  refine go_iload_n (q := 0) (i := 0) rfl rfl dJ0_checkIndex_df160_0 ?_
  refine go_iload_n (q := 1) (i := 1) rfl rfl dJ0_checkIndex_df160_1 ?_
  refine go_sFM rfl lkFM dJ0_checkIndex_df160_2 ?_
  refine go_callS okmJ3_checkIndex_8e157 lmJ0_1059 ⟨nle rfl, nle rfl⟩ (ev_pCheck hj hL2) npmJ3_checkIndex_8e157 rfl (nle rfl) ⟨nle rfl, nle rfl⟩ dJ0_checkIndex_df160_5 ?_
  rintro _ mz ⟨rfl, hz⟩
  subst mz
  refine go_c1 ?_
  refine go_pop rfl dJ0_checkIndex_df160_8 ?_
  refine go_vret rfl ⟨Nat.zero_le _, Nat.zero_le _⟩ dJ0_checkIndex_df160_9 ?_
  exact ⟨rfl, rfl⟩
def txO (i : Nat) (c : Int32) (j : Nat) : Prop := (txB.getD i []).getD j 0 = c
/-- the place of a character in a text, or -1 -/
def txF (i L : Nat) (c : Int32) (o : Int32) : Prop := (∃ j, j < L ∧ txO i c j ∧ (∀ k, k < j → ¬ txO i c k) ∧ o = nI j) ∨ ((∀ k, k < L → ¬ txO i c k) ∧ o = -1)
theorem tx_b : ∀ i, i < 2 → ∀ j, j < txL.getD i 0 → ((txB.getD i []).getD j 0 &&& nI 255).toUInt32 % 65536 = ((txB.getD i []).getD j 0).toUInt32 ∧ narrow .char (.int (((txB.getD i []).getD j 0 &&& nI 255).toUInt32 % 65536).toInt32) = .int ((txB.getD i []).getD j 0) := by
  decide +kernel
set_option maxRecDepth 100000 in
set_option maxHeartbeats 4000000 in
theorem ev_1charAt {m : Me} {i j L : Nat} (h2 : i < 2) (hL : txL.getD i 0 = L) (hL2 : L ≤ 1000) (hL1 : 0 < L) (hj : j < L) : Ev mJ1_charAt_3b067 [.retAddr (2 * i + 1), .int (nI j)] m (fun o m' => o = some (.int ((txB.getD i []).getD j 0)) ∧ m' = m) := by
  have tq : narrow .char (.int (((txB.getD i []).getD j 0 &&& nI 255).toUInt32 % 65536).toInt32) = .int (((txB.getD i []).getD j 0 &&& nI 255).toUInt32 % 65536).toInt32 ∧ (((txB.getD i []).getD j 0 &&& nI 255).toUInt32 % 65536).toInt32 = (txB.getD i []).getD j 0 := by
    have := (tx_b i h2 j (by omega)).2
    have e : (((txB.getD i []).getD j 0 &&& nI 255).toUInt32 % 65536).toInt32 = (txB.getD i []).getD j 0 := by rw [(tx_b i h2 j (by omega)).1]; rfl
    rw [e] at this ⊢
    exact ⟨this, rfl⟩
  refine ⟨plmJ1_charAt_3b067, nle rfl, ?_⟩
  refine go_iload_n (q := 1) (i := 1) rfl rfl dJ1_charAt_3b067_0 ?_
  refine go_aloadT (q := 0) (i := 0) h2 (Or.inr rfl) rfl rfl dJ1_charAt_3b067_1 ?_
  refine go_slen (i := i) h2 dJ1_charAt_3b067_2 ?_
  rw [hL]
  refine go_callS okmJ0_checkIndex_df160 lmJ1_9 ⟨nle rfl, nle rfl⟩ (ev_sCheck hj hL2) npmJ0_checkIndex_df160 rfl (nle rfl) ⟨nle rfl, nle rfl⟩ dJ1_charAt_3b067_3 ?_
  rintro _ mz ⟨rfl, hz⟩
  subst mz
  refine go_c0 ?_
  refine go_aloadT (q := 0) (i := 0) h2 (Or.inr rfl) rfl rfl dJ1_charAt_3b067_6 ?_
  refine go_iload_n (q := 1) (i := 1) rfl rfl dJ1_charAt_3b067_7 ?_
  refine go_sbld (i := i) (j := j) h2 (by omega) (by omega) rfl dJ1_charAt_3b067_8 ?_
  refine go_sipush (v := nI 255) (by decide) dJ1_charAt_3b067_9 ?_
  refine go_iand dJ1_charAt_3b067_12 ?_
  refine go_i2c dJ1_charAt_3b067_13 ?_
  refine go_cret rfl (tq.1) ⟨Nat.zero_le _, Nat.zero_le _⟩ dJ1_charAt_3b067_14 ?_
  refine ⟨?_, rfl⟩
  rw [tq.2]
set_option maxRecDepth 100000 in
set_option maxHeartbeats 4000000 in
theorem ev_sCharAt {m : Me} {i j L : Nat} (h2 : i < 2) (hL : txL.getD i 0 = L) (hL2 : L ≤ 1000) (hL1 : 0 < L) (hj : j < L) : Ev mJ0_charAt_5068e [.retAddr (2 * i), .int (nI j)] m (fun o m' => o = some (.int ((txB.getD i []).getD j 0)) ∧ m' = m) := by
  have tq : narrow .char (.int ((txB.getD i []).getD j 0)) = .int ((txB.getD i []).getD j 0) := by
    have := (tx_b i h2 j (by omega)).2
    rwa [(tx_b i h2 j (by omega)).1] at this
  refine ⟨plmJ0_charAt_5068e, nle rfl, ?_⟩
  refine go_aloadT (q := 0) (i := 0) h2 (Or.inl rfl) rfl rfl dJ0_charAt_5068e_0 ?_
  refine go_callT (i := i) h2 rfl okmJ0_isLatin1_aae02 lmJ0_492 ⟨nle rfl, nle rfl⟩ (ev_sLatin h2) npmJ0_isLatin1_aae02 rfl (nle rfl) ⟨nle rfl, nle rfl⟩ dJ0_charAt_5068e_1 ?_
  rintro _ mz ⟨rfl, hz⟩
  subst mz
  refine go_c1 ?_
  refine gz_eq (by omega) (tgt := 16) dJ0_charAt_5068e_4 (by decide) (fun h4 => by exfalso; omega) (fun h4 => ?_)
  refine go_aloadT (q := 0) (i := 0) h2 (Or.inl rfl) rfl rfl dJ0_charAt_5068e_7 ?_
  refine go_sval (i := i) h2 rfl lkVal dJ0_charAt_5068e_8 ?_
  refine go_iload_n (q := 1) (i := 1) rfl rfl dJ0_charAt_5068e_11 ?_
  refine go_callS okmJ1_charAt_3b067 lmJ0_495 ⟨nle rfl, nle rfl⟩ (ev_1charAt h2 hL hL2 hL1 hj) npmJ1_charAt_3b067 rfl (nle rfl) ⟨nle rfl, nle rfl⟩ dJ0_charAt_5068e_12 ?_
  rintro _ mz ⟨rfl, hz⟩
  subst mz
  refine go_c1 ?_
  refine go_cret rfl tq ⟨Nat.zero_le _, Nat.zero_le _⟩ dJ0_charAt_5068e_15 ?_
  exact ⟨rfl, rfl⟩
set_option maxRecDepth 100000 in
set_option maxHeartbeats 8000000 in
theorem ev_sIoc {m : Me} {i L : Nat} (h2 : i < 2) (hL : txL.getD i 0 = L) (hL2 : L ≤ 1000) (hL1 : 0 < L) {c : Int32} : Ev mJ1_indexOfChar_4cfef [.retAddr (2 * i + 1), .int c, .int (nI 0), .int (nI L)] m (fun o m' => (∃ q, o = some (.int q) ∧ txF i L c.toInt8.toInt32 q) ∧ m' = m) := by
  refine ⟨plmJ1_indexOfChar_4cfef, nle rfl, ?_⟩
  have key : ∀ j, j ≤ L → (∀ k, k < j → ¬ txO i c.toInt8.toInt32 k) → Go mJ1_indexOfChar_4cfef (fun o m' => (∃ q, o = some (.int q) ∧ txF i L c.toInt8.toInt32 q) ∧ m' = m) 7 [some (.retAddr (2 * i + 1)), some (.int c), some (.int (nI 0)), some (.int (nI L)), some (.int c.toInt8.toInt32), some (.int (nI j))] [] m 0 0 := by
    refine loop_up L ?_ ?_
    · intro hn
      refine go_iload (i := 5) rfl dJ1_indexOfChar_4cfef_7 ?_
      refine go_iload_n (q := 3) (i := 3) rfl rfl dJ1_indexOfChar_4cfef_9 ?_
      refine gn_ge (by omega) (by omega) (tgt := 31) dJ1_indexOfChar_4cfef_10 (by decide) (fun h10 => ?_) (fun h10 => by exfalso; omega)
      refine go_iconst (v := -1) (by decide) dJ1_indexOfChar_4cfef_31 ?_
      refine go_iret rfl ⟨Nat.zero_le _, Nat.zero_le _⟩ dJ1_indexOfChar_4cfef_32 ?_
      exact ⟨⟨_, rfl, Or.inr ⟨hn, rfl⟩⟩, rfl⟩
    · intro j hj ihj hn
      refine go_iload (i := 5) rfl dJ1_indexOfChar_4cfef_7 ?_
      refine go_iload_n (q := 3) (i := 3) rfl rfl dJ1_indexOfChar_4cfef_9 ?_
      refine gn_ge (by omega) (by omega) (tgt := 31) dJ1_indexOfChar_4cfef_10 (by decide) (fun h10 => by exfalso; omega) (fun h10 => ?_)
      refine go_aloadT (q := 0) (i := 0) h2 (Or.inr rfl) rfl rfl dJ1_indexOfChar_4cfef_13 ?_
      refine go_iload (i := 5) rfl dJ1_indexOfChar_4cfef_14 ?_
      refine go_sbld (i := i) (j := j) h2 (by omega) (by omega) rfl dJ1_indexOfChar_4cfef_16 ?_
      refine go_iload (i := 4) rfl dJ1_indexOfChar_4cfef_17 ?_
      refine go_icmp_ne (tgt := 25) dJ1_indexOfChar_4cfef_19 (by decide) (fun h19 => ?_) (fun h19 => ?_)
      · skip
        refine gn_inc (i := 5) (a := j) (q := 1) rfl dJ1_indexOfChar_4cfef_25 (nle rfl) rfl ?_
        refine go_goto (tgt := 7) dJ1_indexOfChar_4cfef_28 (by decide) ?_
        exact ihj (fun k hk => by
          by_cases e : k = j
          · rw [e]; exact h19
          · exact hn k (by omega))
      · skip
        refine go_iload (i := 5) rfl dJ1_indexOfChar_4cfef_22 ?_
        refine go_iret rfl ⟨Nat.zero_le _, Nat.zero_le _⟩ dJ1_indexOfChar_4cfef_24 ?_
        exact ⟨⟨_, rfl, Or.inl ⟨j, hj, h19, hn, rfl⟩⟩, rfl⟩
  refine go_iload_n (q := 1) (i := 1) rfl rfl dJ1_indexOfChar_4cfef_0 ?_
  refine go_i2b dJ1_indexOfChar_4cfef_1 ?_
  refine go_istore (i := 4) dJ1_indexOfChar_4cfef_2 (nle rfl) (nle rfl) ?_
  refine go_iload_n (q := 2) (i := 2) rfl rfl dJ1_indexOfChar_4cfef_4 ?_
  refine go_istore (i := 5) dJ1_indexOfChar_4cfef_5 (nle rfl) (nle rfl) ?_
  exact key 0 (Nat.zero_le _) (fun j h => absurd h (Nat.not_lt_zero j))
def cEnc (c : Int32) : Int32 := if c < 0 then 0 else if nI 255 < c then 0 else nI 1
set_option maxRecDepth 100000 in
set_option maxHeartbeats 4000000 in
theorem ev_sCan {m : Me} {c : Int32} : Ev mJ1_canEncode_9a6ad [.int c] m (fun o m' => o = some (.int (cEnc c)) ∧ m' = m) := by
  refine ⟨plmJ1_canEncode_9a6ad, nle rfl, ?_⟩
  refine go_iload_n (q := 0) (i := 0) rfl rfl dJ1_canEncode_9a6ad_0 ?_
  refine go_if_lt (tgt := 15) dJ1_canEncode_9a6ad_1 (by decide) (fun h1 => ?_) (fun h1 => ?_)
  · skip
    refine go_iconst (v := nI 0) (by decide) dJ1_canEncode_9a6ad_15 ?_
    refine go_zret rfl (by decide) ⟨Nat.zero_le _, Nat.zero_le _⟩ dJ1_canEncode_9a6ad_16 ?_
    refine ⟨?_, rfl⟩
    unfold cEnc
    rw [if_pos h1]; rfl
  · skip
    refine go_iload_n (q := 0) (i := 0) rfl rfl dJ1_canEncode_9a6ad_4 ?_
    refine go_sipush (v := nI 255) (by decide) dJ1_canEncode_9a6ad_5 ?_
    refine go_icmp_gt (tgt := 15) dJ1_canEncode_9a6ad_8 (by decide) (fun h8 => ?_) (fun h8 => ?_)
    · skip
      refine go_iconst (v := nI 0) (by decide) dJ1_canEncode_9a6ad_15 ?_
      refine go_zret rfl (by decide) ⟨Nat.zero_le _, Nat.zero_le _⟩ dJ1_canEncode_9a6ad_16 ?_
      refine ⟨?_, rfl⟩
      unfold cEnc
      rw [if_neg h1, if_pos h8]; rfl
    · skip
      refine go_iconst (v := nI 1) (by decide) dJ1_canEncode_9a6ad_11 ?_
      refine go_goto (tgt := 16) dJ1_canEncode_9a6ad_12 (by decide) ?_
      refine go_zret rfl (by decide) ⟨Nat.zero_le _, Nat.zero_le _⟩ dJ1_canEncode_9a6ad_16 ?_
      refine ⟨?_, rfl⟩
      unfold cEnc
      rw [if_neg (fun z => h1 z), if_neg (fun z => h8 z)]
set_option maxRecDepth 100000 in
set_option maxHeartbeats 4000000 in
theorem ev_1Io {m : Me} {i L : Nat} (h2 : i < 2) (hL : txL.getD i 0 = L) (hL2 : L ≤ 1000) (hL1 : 0 < L) {c : Nat} (hc : c < 256) : Ev mJ1_indexOf_4cfef [.retAddr (2 * i + 1), .int (nI c), .int (nI 0), .int (nI L)] m (fun o m' => (∃ q, o = some (.int q) ∧ txF i L (nI c).toInt8.toInt32 q) ∧ m' = m) := by
  refine ⟨plmJ1_indexOf_4cfef, nle rfl, ?_⟩
  refine go_iload_n (q := 1) (i := 1) rfl rfl dJ1_indexOf_4cfef_0 ?_
  refine go_callS okmJ1_canEncode_9a6ad lmJ1_88 ⟨nle rfl, nle rfl⟩ (ev_sCan) npmJ1_canEncode_9a6ad rfl (nle rfl) ⟨nle rfl, nle rfl⟩ dJ1_indexOf_4cfef_1 ?_
  rintro _ mz ⟨rfl, hz⟩
  subst mz
  rw [show cEnc (nI c) = nI 1 by unfold cEnc; rw [if_neg (by rw [← nI_0, nI_ltI (by omega) (by omega)]; omega), if_neg (by rw [nI_ltI (by omega) (by omega)]; omega)]]
  refine go_c1 ?_
  refine gz_ne (by omega) (tgt := 9) dJ1_indexOf_4cfef_4 (by decide) (fun h4 => ?_) (fun h4 => by exfalso; omega)
  refine go_iload_n (q := 2) (i := 2) rfl rfl dJ1_indexOf_4cfef_9 ?_
  refine go_iconst (v := nI 0) (by decide) dJ1_indexOf_4cfef_10 ?_
  refine go_max okMax (wg3 75 rfl rfl) ⟨nle rfl, nle rfl⟩ ⟨Nat.zero_le _, Nat.zero_le _⟩ dJ1_indexOf_4cfef_11 ?_
  rw [ite_self]
  refine go_istore_n (q := 2) (i := 2) rfl dJ1_indexOf_4cfef_14 (nle rfl) (nle rfl) ?_
  refine go_iload_n (q := 3) (i := 3) rfl rfl dJ1_indexOf_4cfef_15 ?_
  refine go_aloadT (q := 0) (i := 0) h2 (Or.inr rfl) rfl rfl dJ1_indexOf_4cfef_16 ?_
  refine go_slen (i := i) h2 dJ1_indexOf_4cfef_17 ?_
  rw [hL]
  refine go_min okMin (wg3 78 rfl rfl) ⟨nle rfl, nle rfl⟩ ⟨Nat.zero_le _, Nat.zero_le _⟩ dJ1_indexOf_4cfef_18 ?_
  rw [ite_self]
  refine go_istore_n (q := 3) (i := 3) rfl dJ1_indexOf_4cfef_21 (nle rfl) (nle rfl) ?_
  refine go_iload_n (q := 2) (i := 2) rfl rfl dJ1_indexOf_4cfef_22 ?_
  refine go_iload_n (q := 3) (i := 3) rfl rfl dJ1_indexOf_4cfef_23 ?_
  refine gn_lt (by omega) (by omega) (tgt := 29) dJ1_indexOf_4cfef_24 (by decide) (fun h24 => ?_) (fun h24 => by exfalso; omega)
  refine go_aloadT (q := 0) (i := 0) h2 (Or.inr rfl) rfl rfl dJ1_indexOf_4cfef_29 ?_
  refine go_iload_n (q := 1) (i := 1) rfl rfl dJ1_indexOf_4cfef_30 ?_
  refine go_iload_n (q := 2) (i := 2) rfl rfl dJ1_indexOf_4cfef_31 ?_
  refine go_iload_n (q := 3) (i := 3) rfl rfl dJ1_indexOf_4cfef_32 ?_
  refine go_callS okmJ1_indexOfChar_4cfef lmJ1_95 ⟨nle rfl, nle rfl⟩ (ev_sIoc h2 hL hL2 hL1) npmJ1_indexOfChar_4cfef rfl (nle rfl) ⟨nle rfl, nle rfl⟩ dJ1_indexOf_4cfef_33 ?_
  rintro _ mz ⟨⟨q, rfl, hq⟩, hz⟩
  subst mz
  refine go_c1 ?_
  refine go_iret rfl ⟨Nat.zero_le _, Nat.zero_le _⟩ dJ1_indexOf_4cfef_36 ?_
  exact ⟨⟨q, rfl, hq⟩, rfl⟩
set_option maxRecDepth 100000 in
set_option maxHeartbeats 4000000 in
theorem ev_sIo2 {m : Me} {i L : Nat} (h2 : i < 2) (hL : txL.getD i 0 = L) (hL2 : L ≤ 1000) (hL1 : 0 < L) {c : Nat} (hc : c < 256) : Ev mJ0_indexOf_7cf53 [.retAddr (2 * i), .int (nI c), .int (nI 0)] m (fun o m' => (∃ q, o = some (.int q) ∧ txF i L (nI c).toInt8.toInt32 q) ∧ m' = m) := by
  refine ⟨plmJ0_indexOf_7cf53, nle rfl, ?_⟩
  refine go_aloadT (q := 0) (i := 0) h2 (Or.inl rfl) rfl rfl dJ0_indexOf_7cf53_0 ?_
  refine go_callT (i := i) h2 rfl okmJ0_isLatin1_aae02 lmJ0_492 ⟨nle rfl, nle rfl⟩ (ev_sLatin h2) npmJ0_isLatin1_aae02 rfl (nle rfl) ⟨nle rfl, nle rfl⟩ dJ0_indexOf_7cf53_1 ?_
  rintro _ mz ⟨rfl, hz⟩
  subst mz
  refine go_c1 ?_
  refine gz_eq (by omega) (tgt := 23) dJ0_indexOf_7cf53_4 (by decide) (fun h4 => by exfalso; omega) (fun h4 => ?_)
  refine go_aloadT (q := 0) (i := 0) h2 (Or.inl rfl) rfl rfl dJ0_indexOf_7cf53_7 ?_
  refine go_sval (i := i) h2 rfl lkVal dJ0_indexOf_7cf53_8 ?_
  refine go_iload_n (q := 1) (i := 1) rfl rfl dJ0_indexOf_7cf53_11 ?_
  refine go_iload_n (q := 2) (i := 2) rfl rfl dJ0_indexOf_7cf53_12 ?_
  refine go_aloadT (q := 0) (i := 0) h2 (Or.inl rfl) rfl rfl dJ0_indexOf_7cf53_13 ?_
  refine go_callT (i := i) h2 rfl okmJ0_length_8abf5 lmJ0_505 ⟨nle rfl, nle rfl⟩ (ev_sLength h2 hL hL2 hL1) npmJ0_length_8abf5 rfl (nle rfl) ⟨nle rfl, nle rfl⟩ dJ0_indexOf_7cf53_14 ?_
  rintro _ mz ⟨rfl, hz⟩
  subst mz
  refine go_c1 ?_
  refine go_callS okmJ1_indexOf_4cfef lmJ0_637 ⟨nle rfl, nle rfl⟩ (ev_1Io h2 hL hL2 hL1 hc) npmJ1_indexOf_4cfef rfl (nle rfl) ⟨nle rfl, nle rfl⟩ dJ0_indexOf_7cf53_17 ?_
  rintro _ mz ⟨⟨q, rfl, hq⟩, hz⟩
  subst mz
  refine go_c1 ?_
  refine go_goto (tgt := 36) dJ0_indexOf_7cf53_20 (by decide) ?_
  refine go_iret rfl ⟨Nat.zero_le _, Nat.zero_le _⟩ dJ0_indexOf_7cf53_36 ?_
  exact ⟨⟨q, rfl, hq⟩, rfl⟩
set_option maxRecDepth 100000 in
set_option maxHeartbeats 4000000 in
theorem ev_sIo {m : Me} {i L : Nat} (h2 : i < 2) (hL : txL.getD i 0 = L) (hL2 : L ≤ 1000) (hL1 : 0 < L) {c : Nat} (hc : c < 256) : Ev mJ0_indexOf_0f7a4 [.retAddr (2 * i), .int (nI c)] m (fun o m' => (∃ q, o = some (.int q) ∧ txF i L (nI c).toInt8.toInt32 q) ∧ m' = m) := by
  refine ⟨plmJ0_indexOf_0f7a4, nle rfl, ?_⟩
  refine go_aloadT (q := 0) (i := 0) h2 (Or.inl rfl) rfl rfl dJ0_indexOf_0f7a4_0 ?_
  refine go_iload_n (q := 1) (i := 1) rfl rfl dJ0_indexOf_0f7a4_1 ?_
  refine go_iconst (v := nI 0) (by decide) dJ0_indexOf_0f7a4_2 ?_
  refine go_callT (i := i) h2 rfl okmJ0_indexOf_7cf53 lmJ0_633 ⟨nle rfl, nle rfl⟩ (ev_sIo2 h2 hL hL2 hL1 hc) npmJ0_indexOf_7cf53 rfl (nle rfl) ⟨nle rfl, nle rfl⟩ dJ0_indexOf_0f7a4_3 ?_
  rintro _ mz ⟨⟨q, rfl, hq⟩, hz⟩
  subst mz
  refine go_c1 ?_
  refine go_iret rfl ⟨Nat.zero_le _, Nat.zero_le _⟩ dJ0_indexOf_0f7a4_6 ?_
  exact ⟨⟨q, rfl, hq⟩, rfl⟩
