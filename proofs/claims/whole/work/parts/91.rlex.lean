/-- the reference's word for a kind -/
def rk (k : Nat) : Nat := if k < 23 then 20 + k else [1, 2, 4, 5, 8, 9, 10, 15, 13, 6, 7, 0, 3].getD (k - 23) 3
def bM (B : Nat → Nat) (n i : Nat) : Int32 := if i < n then nI (B i) else nI 0
theorem lt_m {B : Nat → Nat} {n i : Nat} (h : B8 B) : ltS (bM B n i) = pit (inP B n isLt i) (nI 1) (nI 0) := by
  unfold bM
  by_cases e : i < n
  · rw [if_pos e, ltS_n (h i)]
    by_cases k : isLt (B i)
    · rw [pit_t k, pit_t ⟨e, k⟩]
    · rw [pit_f k, pit_f (fun z => k z.2)]
  · rw [if_neg e, pit_f (fun z => e z.1)]; decide
theorem dg_m {B : Nat → Nat} {n i : Nat} (h : B8 B) : dgS (bM B n i) = pit (inP B n isDg i) (nI 1) (nI 0) := by
  unfold bM
  by_cases e : i < n
  · rw [if_pos e, dgS_n (h i)]
    by_cases k : isDg (B i)
    · rw [pit_t k, pit_t ⟨e, k⟩]
    · rw [pit_f k, pit_f (fun z => k z.2)]
  · rw [if_neg e, pit_f (fun z => e z.1)]; decide
/-- the text, as the reference reads it -/
def TpM (m : Me) (B : Nat → Nat) (n : Nat) : Prop := n ≤ 2000 ∧ gI m 274 4 = nI n ∧ (∀ i, i < n → gI m 276 i &&& nI 255 = nI (B i)) ∧ B8 B
abbrev Fm (m m' : Me) : Prop := Fx (fun x => x = 274 ∨ x = 277 ∨ x = 278 ∨ x = 279) (fun x => x = 280) m m'
def PuM (m m' : Me) (z : Nat) (k p v : Int32) (l : Int64) : Prop := Fm m m' ∧ gI m' 274 = upd (gI m 274) 10 (nI (z + 1)) ∧ gI m' 277 = upd (gI m 277) z k ∧ gI m' 278 = upd (gI m 278) z p ∧ gI m' 279 = upd (gI m 279) z v ∧ gJ m' 280 = vp_updL (gJ m 280) z l
def apS (k : Int64) (c : Int32) : Int64 := if c = 0 then k else 27 * k + (c - nI 97 + nI 1).toInt64
theorem apS_n {k c : Nat} (h1 : 97 ≤ c) (h2 : c ≤ 122) : apS (lN k) (nI c) = lN (27 * k + (c - 96)) := by
  unfold apS
  rw [if_neg (fun z => by rw [← nI_0] at z; have := congrArg Int32.toInt z; rw [nI_toInt (by omega), nI_toInt (by omega)] at this; omega), pk_sub h1, nI_add, nI_l (by omega), show (27 : Int64) = lN 27 from rfl, lN_mul, lN_add]
  congr 1
  omega
theorem sg_c (c : Nat) : c = 59 ∨ c = 61 ∨ c = 40 ∨ c = 41 ∨ c = 43 ∨ c = 45 ∨ c = 42 ∨ c = 47 ∨ c = 60 ∨ (sgK c = 35 ∧ c ≠ 59 ∧ c ≠ 61 ∧ c ≠ 40 ∧ c ≠ 41 ∧ c ≠ 43 ∧ c ≠ 45 ∧ c ≠ 42 ∧ c ≠ 47 ∧ c ≠ 60) := by
  by_cases h : c = 59 ∨ c = 61 ∨ c = 40 ∨ c = 41 ∨ c = 43 ∨ c = 45 ∨ c = 42 ∨ c = 47 ∨ c = 60
  · omega
  · have : sgK c = 35 := by
      unfold sgK
      rw [if_neg (by omega), if_neg (by omega), if_neg (by omega), if_neg (by omega), if_neg (by omega), if_neg (by omega), if_neg (by omega), if_neg (by omega), if_neg (by omega)]
    omega
set_option maxRecDepth 100000 in
set_option maxHeartbeats 4000000 in
theorem ex_byteAt {m : Me} {B : Nat → Nat} {n i : Nat} (hx : Wf12 m.1 (gR m)) (hT : TpM m B n) (hi : i ≤ 5000) : Ev mX12_byteAt [.ref 274, .int (nI i)] m (fun o m' => o = some (.int (bM B n i)) ∧ m' = m) := by
  have hn := hT.1
  refine ⟨plmX12_byteAt, nle rfl, ?_⟩
  refine go_iload_n (q := 1) (i := 1) rfl rfl dX12_byteAt_0 ?_
  refine go_aload_n (q := 0) (i := 0) rfl rfl dX12_byteAt_1 ?_
  refine go_getI lf12_199 rfl hx.o dX12_byteAt_2 ?_
  rw [hT.2.1]
  refine gn_ge (by omega) (by omega) (tgt := 21) dX12_byteAt_5 (by decide) (fun h5 => ?_) (fun h5 => ?_)
  · skip
    refine go_iconst (v := nI 0) (by decide) dX12_byteAt_21 ?_
    refine go_iret rfl ⟨Nat.zero_le _, Nat.zero_le _⟩ dX12_byteAt_22 ?_
    exact ⟨by unfold bM; rw [if_neg (by omega)], rfl⟩
  · skip
    refine go_aload_n (q := 0) (i := 0) rfl rfl dX12_byteAt_8 ?_
    refine go_getR lf12_17 rfl hx.o hx.r3 dX12_byteAt_9 ?_
    refine go_iload_n (q := 1) (i := 1) rfl rfl dX12_byteAt_12 ?_
    refine go_bald (j := i) hx.i3 (by omega) (by first | decide | omega) rfl dX12_byteAt_13 ?_
    refine go_sipush (v := nI 255) (by decide) dX12_byteAt_14 ?_
    refine go_iand dX12_byteAt_17 ?_
    rw [hT.2.2.1 i h5]
    refine go_goto (tgt := 22) dX12_byteAt_18 (by decide) ?_
    refine go_iret rfl ⟨Nat.zero_le _, Nat.zero_le _⟩ dX12_byteAt_22 ?_
    exact ⟨by unfold bM; rw [if_pos h5], rfl⟩
set_option maxRecDepth 100000 in
set_option maxHeartbeats 4000000 in
theorem ex_appends {m : Me} {k : Int64} {c : Int32} : Ev mX12_appends [.long k, .int c] m (fun o m' => o = some (.long (apS k c)) ∧ m' = m) := by
  refine ⟨plmX12_appends, nle rfl, ?_⟩
  refine go_iload_n (q := 2) (i := 2) rfl rfl dX12_appends_0 ?_
  refine go_if_ne (tgt := 8) dX12_appends_1 (by decide) (fun h1 => ?_) (fun h1 => ?_)
  · skip
    refine go_ldc2 (wg5 204 rfl rfl) dX12_appends_8 ?_
    refine go_lload_n (q := 0) (i := 0) rfl rfl dX12_appends_11 ?_
    refine go_lmul dX12_appends_12 ?_
    refine go_iload_n (q := 2) (i := 2) rfl rfl dX12_appends_13 ?_
    refine go_bipush (v := nI 97) (by decide) dX12_appends_14 ?_
    refine go_isub dX12_appends_16 ?_
    refine go_iconst (v := nI 1) (by decide) dX12_appends_17 ?_
    refine go_iadd dX12_appends_18 ?_
    refine go_i2l dX12_appends_19 ?_
    refine go_ladd dX12_appends_20 ?_
    refine go_lret rfl ⟨Nat.zero_le _, Nat.zero_le _⟩ dX12_appends_21 ?_
    refine ⟨?_, rfl⟩
    unfold apS
    rw [if_neg h1]
  · skip
    refine go_lload_n (q := 0) (i := 0) rfl rfl dX12_appends_4 ?_
    refine go_goto (tgt := 21) dX12_appends_5 (by decide) ?_
    refine go_lret rfl ⟨Nat.zero_le _, Nat.zero_le _⟩ dX12_appends_21 ?_
    refine ⟨?_, rfl⟩
    unfold apS
    rw [if_pos h1]
set_option maxRecDepth 100000 in
set_option maxHeartbeats 4000000 in
theorem ex_token {m : Me} {z : Nat} {k p v : Int32} {l : Int64} (hx : Wf12 m.1 (gR m)) (hz : z ≤ 400) (hsz : gI m 274 10 = nI z) : Ev mX12_token [.ref 274, .int k, .int p, .int v, .long l] m (fun o m' => o = none ∧ PuM m m' z k p v l) := by
  refine ⟨plmX12_token, nle rfl, ?_⟩
  refine go_aload_n (q := 0) (i := 0) rfl rfl dX12_token_0 ?_
  refine go_getR lf12_20 rfl hx.o hx.r5 dX12_token_1 ?_
  refine go_aload_n (q := 0) (i := 0) rfl rfl dX12_token_4 ?_
  refine go_getI lf12_208 rfl hx.o dX12_token_5 ?_
  rw [hsz]
  refine go_iload_n (q := 1) (i := 1) rfl rfl dX12_token_8 ?_
  refine go_iast (j := z) hx.i5 (by omega) (by first | decide | omega) rfl dX12_token_9 ?_
  refine go_aload_n (q := 0) (i := 0) rfl rfl dX12_token_10 ?_
  refine go_getR lf12_24 rfl hx.o hx.r6 dX12_token_11 ?_
  refine go_aload_n (q := 0) (i := 0) rfl rfl dX12_token_14 ?_
  refine go_getI lf12_208 rfl hx.o dX12_token_15 ?_
  rw [gI_n (by decide), hsz]
  refine go_iload_n (q := 2) (i := 2) rfl rfl dX12_token_18 ?_
  refine go_iast (j := z) hx.i6 (by omega) (by first | decide | omega) rfl dX12_token_19 ?_
  refine go_aload_n (q := 0) (i := 0) rfl rfl dX12_token_20 ?_
  refine go_getR lf12_27 rfl hx.o hx.r7 dX12_token_21 ?_
  refine go_aload_n (q := 0) (i := 0) rfl rfl dX12_token_24 ?_
  refine go_getI lf12_208 rfl hx.o dX12_token_25 ?_
  rw [gI_n (by decide), gI_n (by decide), hsz]
  refine go_iload_n (q := 3) (i := 3) rfl rfl dX12_token_28 ?_
  refine go_iast (j := z) hx.i7 (by omega) (by first | decide | omega) rfl dX12_token_29 ?_
  refine go_aload_n (q := 0) (i := 0) rfl rfl dX12_token_30 ?_
  refine go_getR lf12_30 rfl hx.o hx.r8 dX12_token_31 ?_
  refine go_aload_n (q := 0) (i := 0) rfl rfl dX12_token_34 ?_
  refine go_getI lf12_208 rfl hx.o dX12_token_35 ?_
  rw [gI_n (by decide), gI_n (by decide), gI_n (by decide), hsz]
  refine go_lload (i := 4) rfl dX12_token_38 ?_
  refine go_last (j := z) hx.i8 (by omega) (by first | decide | omega) rfl dX12_token_40 ?_
  refine go_aload_n (q := 0) (i := 0) rfl rfl dX12_token_41 ?_
  refine go_dup rfl dX12_token_42 ?_
  refine go_getI lf12_208 rfl hx.o dX12_token_43 ?_
  rw [show ∀ (q : Me) (r : Nat → Int64), gI (sJ q 280 r) = gI q from fun _ _ => rfl, gI_n (by decide), gI_n (by decide), gI_n (by decide), hsz]
  refine go_iconst (v := nI 1) (by decide) dX12_token_46 ?_
  refine gn_add dX12_token_47 ?_
  refine go_putI lf12_208 rfl (Or.inl rfl) hx.o dX12_token_48 ?_
  refine go_vret rfl ⟨Nat.zero_le _, Nat.zero_le _⟩ dX12_token_51 ?_
  refine ⟨rfl, Fx.I (Fx.J (Fx.I (Fx.I (Fx.I Fx.rf (Or.inr (Or.inl rfl))) (Or.inr (Or.inr (Or.inl rfl)))) (Or.inr (Or.inr (Or.inr rfl)))) rfl) (Or.inl rfl), ?_, ?_, ?_, ?_, ?_⟩
  · rw [gI_s]; rfl
  · rfl
  · rfl
  · rfl
  · rfl
set_option maxRecDepth 100000 in
set_option maxHeartbeats 8000000 in
theorem ex_sign {m : Me} {z p c : Nat} {x : Int32} (hx : Wf12 m.1 (gR m)) (hz : z ≤ 400) (hsz : gI m 274 10 = nI z) (hc : c < 256) : Ev mX12_sign [.ref 274, .int (nI p), .int (nI c), .int x] m (fun o m' => o = some (.int (nI 1)) ∧ PuM m m' z (nI (rk (sgK c))) (nI p) (nI 0) 0) := by
  refine ⟨plmX12_sign, nle rfl, ?_⟩
  rcases sg_c c with rfl | rfl | rfl | rfl | rfl | rfl | rfl | rfl | rfl | ⟨hs, hs1, hs2, hs3, hs4, hs5, hs6, hs7, hs8, hs9⟩
  · skip
    refine go_iload_n (q := 2) (i := 2) rfl rfl dX12_sign_0 ?_
    refine go_bipush (v := nI 59) (by decide) dX12_sign_1 ?_
    refine gn_ne (by omega) (by omega) (tgt := 10) dX12_sign_3 (by decide) (fun h3 => by exfalso; omega) (fun h3 => ?_)
    refine go_iconst (v := nI 4) (by decide) dX12_sign_6 ?_
    refine go_goto (tgt := 43) dX12_sign_7 (by decide) ?_
    refine go_istore (i := 4) dX12_sign_43 (nle rfl) (nle rfl) ?_
    refine go_iload_n (q := 2) (i := 2) rfl rfl dX12_sign_45 ?_
    refine go_bipush (v := nI 43) (by decide) dX12_sign_46 ?_
    refine gn_ne (by omega) (by omega) (tgt := 55) dX12_sign_48 (by decide) (fun h48 => ?_) (fun h48 => by exfalso; omega)
    refine go_iload_n (q := 2) (i := 2) rfl rfl dX12_sign_55 ?_
    refine go_bipush (v := nI 45) (by decide) dX12_sign_56 ?_
    refine gn_ne (by omega) (by omega) (tgt := 65) dX12_sign_58 (by decide) (fun h58 => ?_) (fun h58 => by exfalso; omega)
    refine go_iload_n (q := 2) (i := 2) rfl rfl dX12_sign_65 ?_
    refine go_bipush (v := nI 42) (by decide) dX12_sign_66 ?_
    refine gn_ne (by omega) (by omega) (tgt := 75) dX12_sign_68 (by decide) (fun h68 => ?_) (fun h68 => by exfalso; omega)
    refine go_iload_n (q := 2) (i := 2) rfl rfl dX12_sign_75 ?_
    refine go_bipush (v := nI 47) (by decide) dX12_sign_76 ?_
    refine gn_ne (by omega) (by omega) (tgt := 85) dX12_sign_78 (by decide) (fun h78 => ?_) (fun h78 => by exfalso; omega)
    refine go_iload_n (q := 2) (i := 2) rfl rfl dX12_sign_85 ?_
    refine go_bipush (v := nI 60) (by decide) dX12_sign_86 ?_
    refine gn_ne (by omega) (by omega) (tgt := 95) dX12_sign_88 (by decide) (fun h88 => ?_) (fun h88 => by exfalso; omega)
    refine go_aload_n (q := 0) (i := 0) rfl rfl dX12_sign_95 ?_
    refine go_iload (i := 4) rfl dX12_sign_96 ?_
    refine go_iload_n (q := 1) (i := 1) rfl rfl dX12_sign_98 ?_
    refine go_iconst (v := nI 0) (by decide) dX12_sign_99 ?_
    refine go_lconst (v := 0) (by decide) dX12_sign_100 ?_
    refine go_callV okmX12_token lmX12_215 ⟨nle rfl, nle rfl⟩ hx.o ⟨by decide, rfl⟩ (ex_token hx hz hsz) npmX12_token rfl (nle rfl) ⟨nle rfl, nle rfl⟩ dX12_sign_101 ?_
    rintro _ m1 ⟨rfl, hp⟩
    refine go_c0 ?_
    refine go_iconst (v := nI 1) (by decide) dX12_sign_104 ?_
    refine go_iret rfl ⟨Nat.zero_le _, Nat.zero_le _⟩ dX12_sign_105 ?_
    exact ⟨rfl, hp⟩
  · skip
    refine go_iload_n (q := 2) (i := 2) rfl rfl dX12_sign_0 ?_
    refine go_bipush (v := nI 59) (by decide) dX12_sign_1 ?_
    refine gn_ne (by omega) (by omega) (tgt := 10) dX12_sign_3 (by decide) (fun h3 => ?_) (fun h3 => by exfalso; omega)
    refine go_iload_n (q := 2) (i := 2) rfl rfl dX12_sign_10 ?_
    refine go_bipush (v := nI 61) (by decide) dX12_sign_11 ?_
    refine gn_ne (by omega) (by omega) (tgt := 20) dX12_sign_13 (by decide) (fun h13 => by exfalso; omega) (fun h13 => ?_)
    refine go_iconst (v := nI 5) (by decide) dX12_sign_16 ?_
    refine go_goto (tgt := 43) dX12_sign_17 (by decide) ?_
    refine go_istore (i := 4) dX12_sign_43 (nle rfl) (nle rfl) ?_
    refine go_iload_n (q := 2) (i := 2) rfl rfl dX12_sign_45 ?_
    refine go_bipush (v := nI 43) (by decide) dX12_sign_46 ?_
    refine gn_ne (by omega) (by omega) (tgt := 55) dX12_sign_48 (by decide) (fun h48 => ?_) (fun h48 => by exfalso; omega)
    refine go_iload_n (q := 2) (i := 2) rfl rfl dX12_sign_55 ?_
    refine go_bipush (v := nI 45) (by decide) dX12_sign_56 ?_
    refine gn_ne (by omega) (by omega) (tgt := 65) dX12_sign_58 (by decide) (fun h58 => ?_) (fun h58 => by exfalso; omega)
    refine go_iload_n (q := 2) (i := 2) rfl rfl dX12_sign_65 ?_
    refine go_bipush (v := nI 42) (by decide) dX12_sign_66 ?_
    refine gn_ne (by omega) (by omega) (tgt := 75) dX12_sign_68 (by decide) (fun h68 => ?_) (fun h68 => by exfalso; omega)
    refine go_iload_n (q := 2) (i := 2) rfl rfl dX12_sign_75 ?_
    refine go_bipush (v := nI 47) (by decide) dX12_sign_76 ?_
    refine gn_ne (by omega) (by omega) (tgt := 85) dX12_sign_78 (by decide) (fun h78 => ?_) (fun h78 => by exfalso; omega)
    refine go_iload_n (q := 2) (i := 2) rfl rfl dX12_sign_85 ?_
    refine go_bipush (v := nI 60) (by decide) dX12_sign_86 ?_
    refine gn_ne (by omega) (by omega) (tgt := 95) dX12_sign_88 (by decide) (fun h88 => ?_) (fun h88 => by exfalso; omega)
    refine go_aload_n (q := 0) (i := 0) rfl rfl dX12_sign_95 ?_
    refine go_iload (i := 4) rfl dX12_sign_96 ?_
    refine go_iload_n (q := 1) (i := 1) rfl rfl dX12_sign_98 ?_
    refine go_iconst (v := nI 0) (by decide) dX12_sign_99 ?_
    refine go_lconst (v := 0) (by decide) dX12_sign_100 ?_
    refine go_callV okmX12_token lmX12_215 ⟨nle rfl, nle rfl⟩ hx.o ⟨by decide, rfl⟩ (ex_token hx hz hsz) npmX12_token rfl (nle rfl) ⟨nle rfl, nle rfl⟩ dX12_sign_101 ?_
    rintro _ m1 ⟨rfl, hp⟩
    refine go_c0 ?_
    refine go_iconst (v := nI 1) (by decide) dX12_sign_104 ?_
    refine go_iret rfl ⟨Nat.zero_le _, Nat.zero_le _⟩ dX12_sign_105 ?_
    exact ⟨rfl, hp⟩
  · skip
    refine go_iload_n (q := 2) (i := 2) rfl rfl dX12_sign_0 ?_
    refine go_bipush (v := nI 59) (by decide) dX12_sign_1 ?_
    refine gn_ne (by omega) (by omega) (tgt := 10) dX12_sign_3 (by decide) (fun h3 => ?_) (fun h3 => by exfalso; omega)
    refine go_iload_n (q := 2) (i := 2) rfl rfl dX12_sign_10 ?_
    refine go_bipush (v := nI 61) (by decide) dX12_sign_11 ?_
    refine gn_ne (by omega) (by omega) (tgt := 20) dX12_sign_13 (by decide) (fun h13 => ?_) (fun h13 => by exfalso; omega)
    refine go_iload_n (q := 2) (i := 2) rfl rfl dX12_sign_20 ?_
    refine go_bipush (v := nI 40) (by decide) dX12_sign_21 ?_
    refine gn_ne (by omega) (by omega) (tgt := 31) dX12_sign_23 (by decide) (fun h23 => by exfalso; omega) (fun h23 => ?_)
    refine go_bipush (v := nI 6) (by decide) dX12_sign_26 ?_
    refine go_goto (tgt := 43) dX12_sign_28 (by decide) ?_
    refine go_istore (i := 4) dX12_sign_43 (nle rfl) (nle rfl) ?_
    refine go_iload_n (q := 2) (i := 2) rfl rfl dX12_sign_45 ?_
    refine go_bipush (v := nI 43) (by decide) dX12_sign_46 ?_
    refine gn_ne (by omega) (by omega) (tgt := 55) dX12_sign_48 (by decide) (fun h48 => ?_) (fun h48 => by exfalso; omega)
    refine go_iload_n (q := 2) (i := 2) rfl rfl dX12_sign_55 ?_
    refine go_bipush (v := nI 45) (by decide) dX12_sign_56 ?_
    refine gn_ne (by omega) (by omega) (tgt := 65) dX12_sign_58 (by decide) (fun h58 => ?_) (fun h58 => by exfalso; omega)
    refine go_iload_n (q := 2) (i := 2) rfl rfl dX12_sign_65 ?_
    refine go_bipush (v := nI 42) (by decide) dX12_sign_66 ?_
    refine gn_ne (by omega) (by omega) (tgt := 75) dX12_sign_68 (by decide) (fun h68 => ?_) (fun h68 => by exfalso; omega)
    refine go_iload_n (q := 2) (i := 2) rfl rfl dX12_sign_75 ?_
    refine go_bipush (v := nI 47) (by decide) dX12_sign_76 ?_
    refine gn_ne (by omega) (by omega) (tgt := 85) dX12_sign_78 (by decide) (fun h78 => ?_) (fun h78 => by exfalso; omega)
    refine go_iload_n (q := 2) (i := 2) rfl rfl dX12_sign_85 ?_
    refine go_bipush (v := nI 60) (by decide) dX12_sign_86 ?_
    refine gn_ne (by omega) (by omega) (tgt := 95) dX12_sign_88 (by decide) (fun h88 => ?_) (fun h88 => by exfalso; omega)
    refine go_aload_n (q := 0) (i := 0) rfl rfl dX12_sign_95 ?_
    refine go_iload (i := 4) rfl dX12_sign_96 ?_
    refine go_iload_n (q := 1) (i := 1) rfl rfl dX12_sign_98 ?_
    refine go_iconst (v := nI 0) (by decide) dX12_sign_99 ?_
    refine go_lconst (v := 0) (by decide) dX12_sign_100 ?_
    refine go_callV okmX12_token lmX12_215 ⟨nle rfl, nle rfl⟩ hx.o ⟨by decide, rfl⟩ (ex_token hx hz hsz) npmX12_token rfl (nle rfl) ⟨nle rfl, nle rfl⟩ dX12_sign_101 ?_
    rintro _ m1 ⟨rfl, hp⟩
    refine go_c0 ?_
    refine go_iconst (v := nI 1) (by decide) dX12_sign_104 ?_
    refine go_iret rfl ⟨Nat.zero_le _, Nat.zero_le _⟩ dX12_sign_105 ?_
    exact ⟨rfl, hp⟩
  · skip
    refine go_iload_n (q := 2) (i := 2) rfl rfl dX12_sign_0 ?_
    refine go_bipush (v := nI 59) (by decide) dX12_sign_1 ?_
    refine gn_ne (by omega) (by omega) (tgt := 10) dX12_sign_3 (by decide) (fun h3 => ?_) (fun h3 => by exfalso; omega)
    refine go_iload_n (q := 2) (i := 2) rfl rfl dX12_sign_10 ?_
    refine go_bipush (v := nI 61) (by decide) dX12_sign_11 ?_
    refine gn_ne (by omega) (by omega) (tgt := 20) dX12_sign_13 (by decide) (fun h13 => ?_) (fun h13 => by exfalso; omega)
    refine go_iload_n (q := 2) (i := 2) rfl rfl dX12_sign_20 ?_
    refine go_bipush (v := nI 40) (by decide) dX12_sign_21 ?_
    refine gn_ne (by omega) (by omega) (tgt := 31) dX12_sign_23 (by decide) (fun h23 => ?_) (fun h23 => by exfalso; omega)
    refine go_iload_n (q := 2) (i := 2) rfl rfl dX12_sign_31 ?_
    refine go_bipush (v := nI 41) (by decide) dX12_sign_32 ?_
    refine gn_ne (by omega) (by omega) (tgt := 42) dX12_sign_34 (by decide) (fun h34 => by exfalso; omega) (fun h34 => ?_)
    refine go_bipush (v := nI 7) (by decide) dX12_sign_37 ?_
    refine go_goto (tgt := 43) dX12_sign_39 (by decide) ?_
    refine go_istore (i := 4) dX12_sign_43 (nle rfl) (nle rfl) ?_
    refine go_iload_n (q := 2) (i := 2) rfl rfl dX12_sign_45 ?_
    refine go_bipush (v := nI 43) (by decide) dX12_sign_46 ?_
    refine gn_ne (by omega) (by omega) (tgt := 55) dX12_sign_48 (by decide) (fun h48 => ?_) (fun h48 => by exfalso; omega)
    refine go_iload_n (q := 2) (i := 2) rfl rfl dX12_sign_55 ?_
    refine go_bipush (v := nI 45) (by decide) dX12_sign_56 ?_
    refine gn_ne (by omega) (by omega) (tgt := 65) dX12_sign_58 (by decide) (fun h58 => ?_) (fun h58 => by exfalso; omega)
    refine go_iload_n (q := 2) (i := 2) rfl rfl dX12_sign_65 ?_
    refine go_bipush (v := nI 42) (by decide) dX12_sign_66 ?_
    refine gn_ne (by omega) (by omega) (tgt := 75) dX12_sign_68 (by decide) (fun h68 => ?_) (fun h68 => by exfalso; omega)
    refine go_iload_n (q := 2) (i := 2) rfl rfl dX12_sign_75 ?_
    refine go_bipush (v := nI 47) (by decide) dX12_sign_76 ?_
    refine gn_ne (by omega) (by omega) (tgt := 85) dX12_sign_78 (by decide) (fun h78 => ?_) (fun h78 => by exfalso; omega)
    refine go_iload_n (q := 2) (i := 2) rfl rfl dX12_sign_85 ?_
    refine go_bipush (v := nI 60) (by decide) dX12_sign_86 ?_
    refine gn_ne (by omega) (by omega) (tgt := 95) dX12_sign_88 (by decide) (fun h88 => ?_) (fun h88 => by exfalso; omega)
    refine go_aload_n (q := 0) (i := 0) rfl rfl dX12_sign_95 ?_
    refine go_iload (i := 4) rfl dX12_sign_96 ?_
    refine go_iload_n (q := 1) (i := 1) rfl rfl dX12_sign_98 ?_
    refine go_iconst (v := nI 0) (by decide) dX12_sign_99 ?_
    refine go_lconst (v := 0) (by decide) dX12_sign_100 ?_
    refine go_callV okmX12_token lmX12_215 ⟨nle rfl, nle rfl⟩ hx.o ⟨by decide, rfl⟩ (ex_token hx hz hsz) npmX12_token rfl (nle rfl) ⟨nle rfl, nle rfl⟩ dX12_sign_101 ?_
    rintro _ m1 ⟨rfl, hp⟩
    refine go_c0 ?_
    refine go_iconst (v := nI 1) (by decide) dX12_sign_104 ?_
    refine go_iret rfl ⟨Nat.zero_le _, Nat.zero_le _⟩ dX12_sign_105 ?_
    exact ⟨rfl, hp⟩
  · skip
    refine go_iload_n (q := 2) (i := 2) rfl rfl dX12_sign_0 ?_
    refine go_bipush (v := nI 59) (by decide) dX12_sign_1 ?_
    refine gn_ne (by omega) (by omega) (tgt := 10) dX12_sign_3 (by decide) (fun h3 => ?_) (fun h3 => by exfalso; omega)
    refine go_iload_n (q := 2) (i := 2) rfl rfl dX12_sign_10 ?_
    refine go_bipush (v := nI 61) (by decide) dX12_sign_11 ?_
    refine gn_ne (by omega) (by omega) (tgt := 20) dX12_sign_13 (by decide) (fun h13 => ?_) (fun h13 => by exfalso; omega)
    refine go_iload_n (q := 2) (i := 2) rfl rfl dX12_sign_20 ?_
    refine go_bipush (v := nI 40) (by decide) dX12_sign_21 ?_
    refine gn_ne (by omega) (by omega) (tgt := 31) dX12_sign_23 (by decide) (fun h23 => ?_) (fun h23 => by exfalso; omega)
    refine go_iload_n (q := 2) (i := 2) rfl rfl dX12_sign_31 ?_
    refine go_bipush (v := nI 41) (by decide) dX12_sign_32 ?_
    refine gn_ne (by omega) (by omega) (tgt := 42) dX12_sign_34 (by decide) (fun h34 => ?_) (fun h34 => by exfalso; omega)
    refine go_iconst (v := nI 3) (by decide) dX12_sign_42 ?_
    refine go_istore (i := 4) dX12_sign_43 (nle rfl) (nle rfl) ?_
    refine go_iload_n (q := 2) (i := 2) rfl rfl dX12_sign_45 ?_
    refine go_bipush (v := nI 43) (by decide) dX12_sign_46 ?_
    refine gn_ne (by omega) (by omega) (tgt := 55) dX12_sign_48 (by decide) (fun h48 => by exfalso; omega) (fun h48 => ?_)
    refine go_bipush (v := nI 8) (by decide) dX12_sign_51 ?_
    refine go_istore (i := 4) dX12_sign_53 (nle rfl) (nle rfl) ?_
    refine go_iload_n (q := 2) (i := 2) rfl rfl dX12_sign_55 ?_
    refine go_bipush (v := nI 45) (by decide) dX12_sign_56 ?_
    refine gn_ne (by omega) (by omega) (tgt := 65) dX12_sign_58 (by decide) (fun h58 => ?_) (fun h58 => by exfalso; omega)
    refine go_iload_n (q := 2) (i := 2) rfl rfl dX12_sign_65 ?_
    refine go_bipush (v := nI 42) (by decide) dX12_sign_66 ?_
    refine gn_ne (by omega) (by omega) (tgt := 75) dX12_sign_68 (by decide) (fun h68 => ?_) (fun h68 => by exfalso; omega)
    refine go_iload_n (q := 2) (i := 2) rfl rfl dX12_sign_75 ?_
    refine go_bipush (v := nI 47) (by decide) dX12_sign_76 ?_
    refine gn_ne (by omega) (by omega) (tgt := 85) dX12_sign_78 (by decide) (fun h78 => ?_) (fun h78 => by exfalso; omega)
    refine go_iload_n (q := 2) (i := 2) rfl rfl dX12_sign_85 ?_
    refine go_bipush (v := nI 60) (by decide) dX12_sign_86 ?_
    refine gn_ne (by omega) (by omega) (tgt := 95) dX12_sign_88 (by decide) (fun h88 => ?_) (fun h88 => by exfalso; omega)
    refine go_aload_n (q := 0) (i := 0) rfl rfl dX12_sign_95 ?_
    refine go_iload (i := 4) rfl dX12_sign_96 ?_
    refine go_iload_n (q := 1) (i := 1) rfl rfl dX12_sign_98 ?_
    refine go_iconst (v := nI 0) (by decide) dX12_sign_99 ?_
    refine go_lconst (v := 0) (by decide) dX12_sign_100 ?_
    refine go_callV okmX12_token lmX12_215 ⟨nle rfl, nle rfl⟩ hx.o ⟨by decide, rfl⟩ (ex_token hx hz hsz) npmX12_token rfl (nle rfl) ⟨nle rfl, nle rfl⟩ dX12_sign_101 ?_
    rintro _ m1 ⟨rfl, hp⟩
    refine go_c0 ?_
    refine go_iconst (v := nI 1) (by decide) dX12_sign_104 ?_
    refine go_iret rfl ⟨Nat.zero_le _, Nat.zero_le _⟩ dX12_sign_105 ?_
    exact ⟨rfl, hp⟩
  · skip
    refine go_iload_n (q := 2) (i := 2) rfl rfl dX12_sign_0 ?_
    refine go_bipush (v := nI 59) (by decide) dX12_sign_1 ?_
    refine gn_ne (by omega) (by omega) (tgt := 10) dX12_sign_3 (by decide) (fun h3 => ?_) (fun h3 => by exfalso; omega)
    refine go_iload_n (q := 2) (i := 2) rfl rfl dX12_sign_10 ?_
    refine go_bipush (v := nI 61) (by decide) dX12_sign_11 ?_
    refine gn_ne (by omega) (by omega) (tgt := 20) dX12_sign_13 (by decide) (fun h13 => ?_) (fun h13 => by exfalso; omega)
    refine go_iload_n (q := 2) (i := 2) rfl rfl dX12_sign_20 ?_
    refine go_bipush (v := nI 40) (by decide) dX12_sign_21 ?_
    refine gn_ne (by omega) (by omega) (tgt := 31) dX12_sign_23 (by decide) (fun h23 => ?_) (fun h23 => by exfalso; omega)
    refine go_iload_n (q := 2) (i := 2) rfl rfl dX12_sign_31 ?_
    refine go_bipush (v := nI 41) (by decide) dX12_sign_32 ?_
    refine gn_ne (by omega) (by omega) (tgt := 42) dX12_sign_34 (by decide) (fun h34 => ?_) (fun h34 => by exfalso; omega)
    refine go_iconst (v := nI 3) (by decide) dX12_sign_42 ?_
    refine go_istore (i := 4) dX12_sign_43 (nle rfl) (nle rfl) ?_
    refine go_iload_n (q := 2) (i := 2) rfl rfl dX12_sign_45 ?_
    refine go_bipush (v := nI 43) (by decide) dX12_sign_46 ?_
    refine gn_ne (by omega) (by omega) (tgt := 55) dX12_sign_48 (by decide) (fun h48 => ?_) (fun h48 => by exfalso; omega)
    refine go_iload_n (q := 2) (i := 2) rfl rfl dX12_sign_55 ?_
    refine go_bipush (v := nI 45) (by decide) dX12_sign_56 ?_
    refine gn_ne (by omega) (by omega) (tgt := 65) dX12_sign_58 (by decide) (fun h58 => by exfalso; omega) (fun h58 => ?_)
    refine go_bipush (v := nI 9) (by decide) dX12_sign_61 ?_
    refine go_istore (i := 4) dX12_sign_63 (nle rfl) (nle rfl) ?_
    refine go_iload_n (q := 2) (i := 2) rfl rfl dX12_sign_65 ?_
    refine go_bipush (v := nI 42) (by decide) dX12_sign_66 ?_
    refine gn_ne (by omega) (by omega) (tgt := 75) dX12_sign_68 (by decide) (fun h68 => ?_) (fun h68 => by exfalso; omega)
    refine go_iload_n (q := 2) (i := 2) rfl rfl dX12_sign_75 ?_
    refine go_bipush (v := nI 47) (by decide) dX12_sign_76 ?_
    refine gn_ne (by omega) (by omega) (tgt := 85) dX12_sign_78 (by decide) (fun h78 => ?_) (fun h78 => by exfalso; omega)
    refine go_iload_n (q := 2) (i := 2) rfl rfl dX12_sign_85 ?_
    refine go_bipush (v := nI 60) (by decide) dX12_sign_86 ?_
    refine gn_ne (by omega) (by omega) (tgt := 95) dX12_sign_88 (by decide) (fun h88 => ?_) (fun h88 => by exfalso; omega)
    refine go_aload_n (q := 0) (i := 0) rfl rfl dX12_sign_95 ?_
    refine go_iload (i := 4) rfl dX12_sign_96 ?_
    refine go_iload_n (q := 1) (i := 1) rfl rfl dX12_sign_98 ?_
    refine go_iconst (v := nI 0) (by decide) dX12_sign_99 ?_
    refine go_lconst (v := 0) (by decide) dX12_sign_100 ?_
    refine go_callV okmX12_token lmX12_215 ⟨nle rfl, nle rfl⟩ hx.o ⟨by decide, rfl⟩ (ex_token hx hz hsz) npmX12_token rfl (nle rfl) ⟨nle rfl, nle rfl⟩ dX12_sign_101 ?_
    rintro _ m1 ⟨rfl, hp⟩
    refine go_c0 ?_
    refine go_iconst (v := nI 1) (by decide) dX12_sign_104 ?_
    refine go_iret rfl ⟨Nat.zero_le _, Nat.zero_le _⟩ dX12_sign_105 ?_
    exact ⟨rfl, hp⟩
  · skip
    refine go_iload_n (q := 2) (i := 2) rfl rfl dX12_sign_0 ?_
    refine go_bipush (v := nI 59) (by decide) dX12_sign_1 ?_
    refine gn_ne (by omega) (by omega) (tgt := 10) dX12_sign_3 (by decide) (fun h3 => ?_) (fun h3 => by exfalso; omega)
    refine go_iload_n (q := 2) (i := 2) rfl rfl dX12_sign_10 ?_
    refine go_bipush (v := nI 61) (by decide) dX12_sign_11 ?_
    refine gn_ne (by omega) (by omega) (tgt := 20) dX12_sign_13 (by decide) (fun h13 => ?_) (fun h13 => by exfalso; omega)
    refine go_iload_n (q := 2) (i := 2) rfl rfl dX12_sign_20 ?_
    refine go_bipush (v := nI 40) (by decide) dX12_sign_21 ?_
    refine gn_ne (by omega) (by omega) (tgt := 31) dX12_sign_23 (by decide) (fun h23 => ?_) (fun h23 => by exfalso; omega)
    refine go_iload_n (q := 2) (i := 2) rfl rfl dX12_sign_31 ?_
    refine go_bipush (v := nI 41) (by decide) dX12_sign_32 ?_
    refine gn_ne (by omega) (by omega) (tgt := 42) dX12_sign_34 (by decide) (fun h34 => ?_) (fun h34 => by exfalso; omega)
    refine go_iconst (v := nI 3) (by decide) dX12_sign_42 ?_
    refine go_istore (i := 4) dX12_sign_43 (nle rfl) (nle rfl) ?_
    refine go_iload_n (q := 2) (i := 2) rfl rfl dX12_sign_45 ?_
    refine go_bipush (v := nI 43) (by decide) dX12_sign_46 ?_
    refine gn_ne (by omega) (by omega) (tgt := 55) dX12_sign_48 (by decide) (fun h48 => ?_) (fun h48 => by exfalso; omega)
    refine go_iload_n (q := 2) (i := 2) rfl rfl dX12_sign_55 ?_
    refine go_bipush (v := nI 45) (by decide) dX12_sign_56 ?_
    refine gn_ne (by omega) (by omega) (tgt := 65) dX12_sign_58 (by decide) (fun h58 => ?_) (fun h58 => by exfalso; omega)
    refine go_iload_n (q := 2) (i := 2) rfl rfl dX12_sign_65 ?_
    refine go_bipush (v := nI 42) (by decide) dX12_sign_66 ?_
    refine gn_ne (by omega) (by omega) (tgt := 75) dX12_sign_68 (by decide) (fun h68 => by exfalso; omega) (fun h68 => ?_)
    refine go_bipush (v := nI 10) (by decide) dX12_sign_71 ?_
    refine go_istore (i := 4) dX12_sign_73 (nle rfl) (nle rfl) ?_
    refine go_iload_n (q := 2) (i := 2) rfl rfl dX12_sign_75 ?_
    refine go_bipush (v := nI 47) (by decide) dX12_sign_76 ?_
    refine gn_ne (by omega) (by omega) (tgt := 85) dX12_sign_78 (by decide) (fun h78 => ?_) (fun h78 => by exfalso; omega)
    refine go_iload_n (q := 2) (i := 2) rfl rfl dX12_sign_85 ?_
    refine go_bipush (v := nI 60) (by decide) dX12_sign_86 ?_
    refine gn_ne (by omega) (by omega) (tgt := 95) dX12_sign_88 (by decide) (fun h88 => ?_) (fun h88 => by exfalso; omega)
    refine go_aload_n (q := 0) (i := 0) rfl rfl dX12_sign_95 ?_
    refine go_iload (i := 4) rfl dX12_sign_96 ?_
    refine go_iload_n (q := 1) (i := 1) rfl rfl dX12_sign_98 ?_
    refine go_iconst (v := nI 0) (by decide) dX12_sign_99 ?_
    refine go_lconst (v := 0) (by decide) dX12_sign_100 ?_
    refine go_callV okmX12_token lmX12_215 ⟨nle rfl, nle rfl⟩ hx.o ⟨by decide, rfl⟩ (ex_token hx hz hsz) npmX12_token rfl (nle rfl) ⟨nle rfl, nle rfl⟩ dX12_sign_101 ?_
    rintro _ m1 ⟨rfl, hp⟩
    refine go_c0 ?_
    refine go_iconst (v := nI 1) (by decide) dX12_sign_104 ?_
    refine go_iret rfl ⟨Nat.zero_le _, Nat.zero_le _⟩ dX12_sign_105 ?_
    exact ⟨rfl, hp⟩
  · skip
    refine go_iload_n (q := 2) (i := 2) rfl rfl dX12_sign_0 ?_
    refine go_bipush (v := nI 59) (by decide) dX12_sign_1 ?_
    refine gn_ne (by omega) (by omega) (tgt := 10) dX12_sign_3 (by decide) (fun h3 => ?_) (fun h3 => by exfalso; omega)
    refine go_iload_n (q := 2) (i := 2) rfl rfl dX12_sign_10 ?_
    refine go_bipush (v := nI 61) (by decide) dX12_sign_11 ?_
    refine gn_ne (by omega) (by omega) (tgt := 20) dX12_sign_13 (by decide) (fun h13 => ?_) (fun h13 => by exfalso; omega)
    refine go_iload_n (q := 2) (i := 2) rfl rfl dX12_sign_20 ?_
    refine go_bipush (v := nI 40) (by decide) dX12_sign_21 ?_
    refine gn_ne (by omega) (by omega) (tgt := 31) dX12_sign_23 (by decide) (fun h23 => ?_) (fun h23 => by exfalso; omega)
    refine go_iload_n (q := 2) (i := 2) rfl rfl dX12_sign_31 ?_
    refine go_bipush (v := nI 41) (by decide) dX12_sign_32 ?_
    refine gn_ne (by omega) (by omega) (tgt := 42) dX12_sign_34 (by decide) (fun h34 => ?_) (fun h34 => by exfalso; omega)
    refine go_iconst (v := nI 3) (by decide) dX12_sign_42 ?_
    refine go_istore (i := 4) dX12_sign_43 (nle rfl) (nle rfl) ?_
    refine go_iload_n (q := 2) (i := 2) rfl rfl dX12_sign_45 ?_
    refine go_bipush (v := nI 43) (by decide) dX12_sign_46 ?_
    refine gn_ne (by omega) (by omega) (tgt := 55) dX12_sign_48 (by decide) (fun h48 => ?_) (fun h48 => by exfalso; omega)
    refine go_iload_n (q := 2) (i := 2) rfl rfl dX12_sign_55 ?_
    refine go_bipush (v := nI 45) (by decide) dX12_sign_56 ?_
    refine gn_ne (by omega) (by omega) (tgt := 65) dX12_sign_58 (by decide) (fun h58 => ?_) (fun h58 => by exfalso; omega)
    refine go_iload_n (q := 2) (i := 2) rfl rfl dX12_sign_65 ?_
    refine go_bipush (v := nI 42) (by decide) dX12_sign_66 ?_
    refine gn_ne (by omega) (by omega) (tgt := 75) dX12_sign_68 (by decide) (fun h68 => ?_) (fun h68 => by exfalso; omega)
    refine go_iload_n (q := 2) (i := 2) rfl rfl dX12_sign_75 ?_
    refine go_bipush (v := nI 47) (by decide) dX12_sign_76 ?_
    refine gn_ne (by omega) (by omega) (tgt := 85) dX12_sign_78 (by decide) (fun h78 => by exfalso; omega) (fun h78 => ?_)
    refine go_bipush (v := nI 15) (by decide) dX12_sign_81 ?_
    refine go_istore (i := 4) dX12_sign_83 (nle rfl) (nle rfl) ?_
    refine go_iload_n (q := 2) (i := 2) rfl rfl dX12_sign_85 ?_
    refine go_bipush (v := nI 60) (by decide) dX12_sign_86 ?_
    refine gn_ne (by omega) (by omega) (tgt := 95) dX12_sign_88 (by decide) (fun h88 => ?_) (fun h88 => by exfalso; omega)
    refine go_aload_n (q := 0) (i := 0) rfl rfl dX12_sign_95 ?_
    refine go_iload (i := 4) rfl dX12_sign_96 ?_
    refine go_iload_n (q := 1) (i := 1) rfl rfl dX12_sign_98 ?_
    refine go_iconst (v := nI 0) (by decide) dX12_sign_99 ?_
    refine go_lconst (v := 0) (by decide) dX12_sign_100 ?_
    refine go_callV okmX12_token lmX12_215 ⟨nle rfl, nle rfl⟩ hx.o ⟨by decide, rfl⟩ (ex_token hx hz hsz) npmX12_token rfl (nle rfl) ⟨nle rfl, nle rfl⟩ dX12_sign_101 ?_
    rintro _ m1 ⟨rfl, hp⟩
    refine go_c0 ?_
    refine go_iconst (v := nI 1) (by decide) dX12_sign_104 ?_
    refine go_iret rfl ⟨Nat.zero_le _, Nat.zero_le _⟩ dX12_sign_105 ?_
    exact ⟨rfl, hp⟩
  · skip
    refine go_iload_n (q := 2) (i := 2) rfl rfl dX12_sign_0 ?_
    refine go_bipush (v := nI 59) (by decide) dX12_sign_1 ?_
    refine gn_ne (by omega) (by omega) (tgt := 10) dX12_sign_3 (by decide) (fun h3 => ?_) (fun h3 => by exfalso; omega)
    refine go_iload_n (q := 2) (i := 2) rfl rfl dX12_sign_10 ?_
    refine go_bipush (v := nI 61) (by decide) dX12_sign_11 ?_
    refine gn_ne (by omega) (by omega) (tgt := 20) dX12_sign_13 (by decide) (fun h13 => ?_) (fun h13 => by exfalso; omega)
    refine go_iload_n (q := 2) (i := 2) rfl rfl dX12_sign_20 ?_
    refine go_bipush (v := nI 40) (by decide) dX12_sign_21 ?_
    refine gn_ne (by omega) (by omega) (tgt := 31) dX12_sign_23 (by decide) (fun h23 => ?_) (fun h23 => by exfalso; omega)
    refine go_iload_n (q := 2) (i := 2) rfl rfl dX12_sign_31 ?_
    refine go_bipush (v := nI 41) (by decide) dX12_sign_32 ?_
    refine gn_ne (by omega) (by omega) (tgt := 42) dX12_sign_34 (by decide) (fun h34 => ?_) (fun h34 => by exfalso; omega)
    refine go_iconst (v := nI 3) (by decide) dX12_sign_42 ?_
    refine go_istore (i := 4) dX12_sign_43 (nle rfl) (nle rfl) ?_
    refine go_iload_n (q := 2) (i := 2) rfl rfl dX12_sign_45 ?_
    refine go_bipush (v := nI 43) (by decide) dX12_sign_46 ?_
    refine gn_ne (by omega) (by omega) (tgt := 55) dX12_sign_48 (by decide) (fun h48 => ?_) (fun h48 => by exfalso; omega)
    refine go_iload_n (q := 2) (i := 2) rfl rfl dX12_sign_55 ?_
    refine go_bipush (v := nI 45) (by decide) dX12_sign_56 ?_
    refine gn_ne (by omega) (by omega) (tgt := 65) dX12_sign_58 (by decide) (fun h58 => ?_) (fun h58 => by exfalso; omega)
    refine go_iload_n (q := 2) (i := 2) rfl rfl dX12_sign_65 ?_
    refine go_bipush (v := nI 42) (by decide) dX12_sign_66 ?_
    refine gn_ne (by omega) (by omega) (tgt := 75) dX12_sign_68 (by decide) (fun h68 => ?_) (fun h68 => by exfalso; omega)
    refine go_iload_n (q := 2) (i := 2) rfl rfl dX12_sign_75 ?_
    refine go_bipush (v := nI 47) (by decide) dX12_sign_76 ?_
    refine gn_ne (by omega) (by omega) (tgt := 85) dX12_sign_78 (by decide) (fun h78 => ?_) (fun h78 => by exfalso; omega)
    refine go_iload_n (q := 2) (i := 2) rfl rfl dX12_sign_85 ?_
    refine go_bipush (v := nI 60) (by decide) dX12_sign_86 ?_
    refine gn_ne (by omega) (by omega) (tgt := 95) dX12_sign_88 (by decide) (fun h88 => by exfalso; omega) (fun h88 => ?_)
    refine go_bipush (v := nI 13) (by decide) dX12_sign_91 ?_
    refine go_istore (i := 4) dX12_sign_93 (nle rfl) (nle rfl) ?_
    refine go_aload_n (q := 0) (i := 0) rfl rfl dX12_sign_95 ?_
    refine go_iload (i := 4) rfl dX12_sign_96 ?_
    refine go_iload_n (q := 1) (i := 1) rfl rfl dX12_sign_98 ?_
    refine go_iconst (v := nI 0) (by decide) dX12_sign_99 ?_
    refine go_lconst (v := 0) (by decide) dX12_sign_100 ?_
    refine go_callV okmX12_token lmX12_215 ⟨nle rfl, nle rfl⟩ hx.o ⟨by decide, rfl⟩ (ex_token hx hz hsz) npmX12_token rfl (nle rfl) ⟨nle rfl, nle rfl⟩ dX12_sign_101 ?_
    rintro _ m1 ⟨rfl, hp⟩
    refine go_c0 ?_
    refine go_iconst (v := nI 1) (by decide) dX12_sign_104 ?_
    refine go_iret rfl ⟨Nat.zero_le _, Nat.zero_le _⟩ dX12_sign_105 ?_
    exact ⟨rfl, hp⟩
  · skip
    refine go_iload_n (q := 2) (i := 2) rfl rfl dX12_sign_0 ?_
    refine go_bipush (v := nI 59) (by decide) dX12_sign_1 ?_
    refine gn_ne (by omega) (by omega) (tgt := 10) dX12_sign_3 (by decide) (fun h3 => ?_) (fun h3 => by exfalso; omega)
    refine go_iload_n (q := 2) (i := 2) rfl rfl dX12_sign_10 ?_
    refine go_bipush (v := nI 61) (by decide) dX12_sign_11 ?_
    refine gn_ne (by omega) (by omega) (tgt := 20) dX12_sign_13 (by decide) (fun h13 => ?_) (fun h13 => by exfalso; omega)
    refine go_iload_n (q := 2) (i := 2) rfl rfl dX12_sign_20 ?_
    refine go_bipush (v := nI 40) (by decide) dX12_sign_21 ?_
    refine gn_ne (by omega) (by omega) (tgt := 31) dX12_sign_23 (by decide) (fun h23 => ?_) (fun h23 => by exfalso; omega)
    refine go_iload_n (q := 2) (i := 2) rfl rfl dX12_sign_31 ?_
    refine go_bipush (v := nI 41) (by decide) dX12_sign_32 ?_
    refine gn_ne (by omega) (by omega) (tgt := 42) dX12_sign_34 (by decide) (fun h34 => ?_) (fun h34 => by exfalso; omega)
    refine go_iconst (v := nI 3) (by decide) dX12_sign_42 ?_
    refine go_istore (i := 4) dX12_sign_43 (nle rfl) (nle rfl) ?_
    refine go_iload_n (q := 2) (i := 2) rfl rfl dX12_sign_45 ?_
    refine go_bipush (v := nI 43) (by decide) dX12_sign_46 ?_
    refine gn_ne (by omega) (by omega) (tgt := 55) dX12_sign_48 (by decide) (fun h48 => ?_) (fun h48 => by exfalso; omega)
    refine go_iload_n (q := 2) (i := 2) rfl rfl dX12_sign_55 ?_
    refine go_bipush (v := nI 45) (by decide) dX12_sign_56 ?_
    refine gn_ne (by omega) (by omega) (tgt := 65) dX12_sign_58 (by decide) (fun h58 => ?_) (fun h58 => by exfalso; omega)
    refine go_iload_n (q := 2) (i := 2) rfl rfl dX12_sign_65 ?_
    refine go_bipush (v := nI 42) (by decide) dX12_sign_66 ?_
    refine gn_ne (by omega) (by omega) (tgt := 75) dX12_sign_68 (by decide) (fun h68 => ?_) (fun h68 => by exfalso; omega)
    refine go_iload_n (q := 2) (i := 2) rfl rfl dX12_sign_75 ?_
    refine go_bipush (v := nI 47) (by decide) dX12_sign_76 ?_
    refine gn_ne (by omega) (by omega) (tgt := 85) dX12_sign_78 (by decide) (fun h78 => ?_) (fun h78 => by exfalso; omega)
    refine go_iload_n (q := 2) (i := 2) rfl rfl dX12_sign_85 ?_
    refine go_bipush (v := nI 60) (by decide) dX12_sign_86 ?_
    refine gn_ne (by omega) (by omega) (tgt := 95) dX12_sign_88 (by decide) (fun h88 => ?_) (fun h88 => by exfalso; omega)
    refine go_aload_n (q := 0) (i := 0) rfl rfl dX12_sign_95 ?_
    refine go_iload (i := 4) rfl dX12_sign_96 ?_
    refine go_iload_n (q := 1) (i := 1) rfl rfl dX12_sign_98 ?_
    refine go_iconst (v := nI 0) (by decide) dX12_sign_99 ?_
    refine go_lconst (v := 0) (by decide) dX12_sign_100 ?_
    refine go_callV okmX12_token lmX12_215 ⟨nle rfl, nle rfl⟩ hx.o ⟨by decide, rfl⟩ (ex_token hx hz hsz) npmX12_token rfl (nle rfl) ⟨nle rfl, nle rfl⟩ dX12_sign_101 ?_
    rintro _ m1 ⟨rfl, hp⟩
    refine go_c0 ?_
    refine go_iconst (v := nI 1) (by decide) dX12_sign_104 ?_
    refine go_iret rfl ⟨Nat.zero_le _, Nat.zero_le _⟩ dX12_sign_105 ?_
    rw [show rk (sgK c) = 3 by rw [hs]; rfl]
    exact ⟨rfl, hp⟩
