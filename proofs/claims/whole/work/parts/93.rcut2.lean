set_option maxRecDepth 100000 in
set_option maxHeartbeats 8000000 in
theorem cut_d {m : Me} {B : Nat → Nat} {n a z : Nat} {Q : Option Value → Me → Prop} {c2 : Int32} {x5 x6 x7 : Option Value} (hx : Wf12 m.1 (gR m)) (hT : TpM m B n) (hz : z ≤ 400) (hsz : gI m 274 10 = nI z) (hl : inP B n isDg a) (k : ∀ (m' : Me) (v : Int32) (x2 x3 x4 x5 x6 x7 : Option Value), PuM m m' z (nI (rk (tkK B n a))) (nI a) v 0 → (tkK B n a = 24 → v = nI (dgF B a (en B n isDg a - a))) → Go mX12_cut Q 7 [some (.ref 274), some (.int (nI (en B n isDg a))), x2, x3, x4, x5, x6, x7] [] m' 0 0) : Go mX12_cut Q 208 [some (.ref 274), some (.int (nI a)), some (.int c2), some (.int (nI 0)), some (.int (nI 0)), x5, x6, x7] [] m 0 0 := by
  have hn2 := hT.1
  have hla := hl.1
  have tail : ∀ i, 0 < i → i ≤ 2000 → (∀ j, j < i → inP B n isDg (a + j)) → ¬ inP B n isDg (a + i) → Go mX12_cut Q 250 [some (.ref 274), some (.int (nI a)), some (.int c2), some (.int (nI i)), some (.int (nI (dgF B a (min i 4)))), x5, x6, x7] [] m 0 0 := by
    intro i hi0 hi hn hend
    have he : en B n isDg a = a + i := en_u (by omega) (fun j h1 h2 => by have := hn (j - a) (by omega); rw [show a + (j - a) = j by omega] at this; exact this) hend
    have hea : en B n isDg a - a = i := by omega
    by_cases h4 : i ≤ 4
    · skip
      refine go_aload_n (q := 0) (i := 0) rfl rfl dX12_cut_250 ?_
      refine go_iload_n (q := 3) (i := 3) rfl rfl dX12_cut_251 ?_
      refine go_iconst (v := nI 4) (by decide) dX12_cut_252 ?_
      refine gn_le (by omega) (by omega) (tgt := 260) dX12_cut_253 (by decide) (fun h253 => ?_) (fun h253 => by exfalso; omega)
      refine go_iconst (v := nI 2) (by decide) dX12_cut_260 ?_
      refine go_iload_n (q := 1) (i := 1) rfl rfl dX12_cut_261 ?_
      refine go_iload (i := 4) rfl dX12_cut_262 ?_
      refine go_lconst (v := 0) (by decide) dX12_cut_264 ?_
      refine go_callV okmX12_token lmX12_215 ⟨nle rfl, nle rfl⟩ hx.o ⟨by decide, rfl⟩ (ex_token hx hz hsz) npmX12_token rfl (nle rfl) ⟨nle rfl, nle rfl⟩ dX12_cut_265 ?_
      rintro _ m1 ⟨rfl, hp⟩
      refine go_c0 ?_
      refine go_iload_n (q := 1) (i := 1) rfl rfl dX12_cut_268 ?_
      refine go_iload_n (q := 3) (i := 3) rfl rfl dX12_cut_269 ?_
      refine gn_add dX12_cut_270 ?_
      refine go_istore_n (q := 1) (i := 1) rfl dX12_cut_271 (nle rfl) (nle rfl) ?_
      refine go_goto (tgt := 291) dX12_cut_272 (by decide) ?_
      refine go_goto (tgt := 7) dX12_cut_291 (by decide) ?_
      rw [← he]
      exact k m1 _ _ _ _ _ _ _ (by rw [tkK_d hl, hea, if_neg (by omega)]; exact hp) (fun h => by
        have h9 := (tkK_24 h).2
        rw [hea] at h9 ⊢
        rw [show min i 4 = i by omega])
    · skip
      refine go_aload_n (q := 0) (i := 0) rfl rfl dX12_cut_250 ?_
      refine go_iload_n (q := 3) (i := 3) rfl rfl dX12_cut_251 ?_
      refine go_iconst (v := nI 4) (by decide) dX12_cut_252 ?_
      refine gn_le (by omega) (by omega) (tgt := 260) dX12_cut_253 (by decide) (fun h253 => by exfalso; omega) (fun h253 => ?_)
      refine go_iconst (v := nI 3) (by decide) dX12_cut_256 ?_
      refine go_goto (tgt := 261) dX12_cut_257 (by decide) ?_
      refine go_iload_n (q := 1) (i := 1) rfl rfl dX12_cut_261 ?_
      refine go_iload (i := 4) rfl dX12_cut_262 ?_
      refine go_lconst (v := 0) (by decide) dX12_cut_264 ?_
      refine go_callV okmX12_token lmX12_215 ⟨nle rfl, nle rfl⟩ hx.o ⟨by decide, rfl⟩ (ex_token hx hz hsz) npmX12_token rfl (nle rfl) ⟨nle rfl, nle rfl⟩ dX12_cut_265 ?_
      rintro _ m1 ⟨rfl, hp⟩
      refine go_c0 ?_
      refine go_iload_n (q := 1) (i := 1) rfl rfl dX12_cut_268 ?_
      refine go_iload_n (q := 3) (i := 3) rfl rfl dX12_cut_269 ?_
      refine gn_add dX12_cut_270 ?_
      refine go_istore_n (q := 1) (i := 1) rfl dX12_cut_271 (nle rfl) (nle rfl) ?_
      refine go_goto (tgt := 291) dX12_cut_272 (by decide) ?_
      refine go_goto (tgt := 7) dX12_cut_291 (by decide) ?_
      rw [← he]
      exact k m1 _ _ _ _ _ _ _ (by rw [tkK_d hl, hea, if_pos (by omega)]; exact hp) (fun h => by
        have h9 := (tkK_24 h).2
        rw [hea] at h9 ⊢
        rw [show min i 4 = i by omega])
  have keyA : ∀ i, i ≤ 2000 → (∀ j, j < i → inP B n isDg (a + j)) → Go mX12_cut Q 208 [some (.ref 274), some (.int (nI a)), some (.int c2), some (.int (nI i)), some (.int (nI (dgF B a (min i 4)))), x5, x6, x7] [] m 0 0 := by
    refine loop_up 2000 ?_ ?_
    · intro hn
      refine go_aload_n (q := 0) (i := 0) rfl rfl dX12_cut_208 ?_
      refine go_iload_n (q := 1) (i := 1) rfl rfl dX12_cut_209 ?_
      refine go_iload_n (q := 3) (i := 3) rfl rfl dX12_cut_210 ?_
      refine gn_add dX12_cut_211 ?_
      refine go_callV okmX12_byteAt lmX12_211 ⟨nle rfl, nle rfl⟩ hx.o ⟨by decide, rfl⟩ (ex_byteAt (i := a + 2000) hx hT (by omega)) npmX12_byteAt rfl (nle rfl) ⟨nle rfl, nle rfl⟩ dX12_cut_212 ?_
      rintro _ mz ⟨rfl, hz⟩
      subst mz
      refine go_c1 ?_
      refine go_callS okmX12_isDigit lmX12_223 ⟨nle rfl, nle rfl⟩ (ex_isDigit) npmX12_isDigit rfl (nle rfl) ⟨nle rfl, nle rfl⟩ dX12_cut_215 ?_
      rintro _ mz ⟨rfl, hz⟩
      subst mz
      rw [dg_m hT.2.2.2, pit_f (fun z => by have := z.1; omega)]
      refine go_c1 ?_
      refine gz_eq (by omega) (tgt := 250) dX12_cut_218 (by decide) (fun h218 => ?_) (fun h218 => by exfalso; omega)
      exact tail 2000 (by omega) (Nat.le_refl _) hn (fun z => by have := z.1; omega)
    · intro i hi ih hn
      refine go_aload_n (q := 0) (i := 0) rfl rfl dX12_cut_208 ?_
      refine go_iload_n (q := 1) (i := 1) rfl rfl dX12_cut_209 ?_
      refine go_iload_n (q := 3) (i := 3) rfl rfl dX12_cut_210 ?_
      refine gn_add dX12_cut_211 ?_
      refine go_callV okmX12_byteAt lmX12_211 ⟨nle rfl, nle rfl⟩ hx.o ⟨by decide, rfl⟩ (ex_byteAt (i := a + i) hx hT (by omega)) npmX12_byteAt rfl (nle rfl) ⟨nle rfl, nle rfl⟩ dX12_cut_212 ?_
      rintro _ mz ⟨rfl, hz⟩
      subst mz
      refine go_c1 ?_
      refine go_callS okmX12_isDigit lmX12_223 ⟨nle rfl, nle rfl⟩ (ex_isDigit) npmX12_isDigit rfl (nle rfl) ⟨nle rfl, nle rfl⟩ dX12_cut_215 ?_
      rintro _ mz ⟨rfl, hz⟩
      subst mz
      rw [dg_m hT.2.2.2]
      by_cases hc : inP B n isDg (a + i)
      · skip
        rw [pit_t hc]
        have hc2 := hc.2
        unfold isDg at hc2
        refine go_c1 ?_
        refine gz_eq (by omega) (tgt := 250) dX12_cut_218 (by decide) (fun h218 => by exfalso; omega) (fun h218 => ?_)
        refine go_iload_n (q := 3) (i := 3) rfl rfl dX12_cut_221 ?_
        refine go_iconst (v := nI 4) (by decide) dX12_cut_222 ?_
        refine gn_ge (by omega) (by omega) (tgt := 244) dX12_cut_223 (by decide) (fun h223 => ?_) (fun h223 => ?_)
        · skip
          refine gn_inc (i := 3) (a := i) (q := 1) rfl dX12_cut_244 (nle rfl) rfl ?_
          refine go_goto (tgt := 208) dX12_cut_247 (by decide) ?_
          have iH := ih (fun j hj => by
            by_cases e : j = i
            · rw [e]; exact hc
            · exact hn j (by omega))
          rw [show min (i + 1) 4 = min i 4 by omega] at iH
          exact iH
        · skip
          refine go_bipush (v := nI 10) (by decide) dX12_cut_226 ?_
          refine go_iload (i := 4) rfl dX12_cut_228 ?_
          refine gn_mul dX12_cut_230 ?_
          refine go_aload_n (q := 0) (i := 0) rfl rfl dX12_cut_231 ?_
          refine go_iload_n (q := 1) (i := 1) rfl rfl dX12_cut_232 ?_
          refine go_iload_n (q := 3) (i := 3) rfl rfl dX12_cut_233 ?_
          refine gn_add dX12_cut_234 ?_
          refine go_callV okmX12_byteAt lmX12_211 ⟨nle rfl, nle rfl⟩ hx.o ⟨by decide, rfl⟩ (ex_byteAt (i := a + i) hx hT (by omega)) npmX12_byteAt rfl (nle rfl) ⟨nle rfl, nle rfl⟩ dX12_cut_235 ?_
          rintro _ mz ⟨rfl, hz⟩
          subst mz
          rw [show bM B n (a + i) = nI (B (a + i)) from if_pos hc.1]
          refine go_c1 ?_
          refine gn_add dX12_cut_238 ?_
          refine go_bipush (v := nI 48) (by decide) dX12_cut_239 ?_
          refine gn_sub (by omega) dX12_cut_241 ?_
          refine go_istore (i := 4) dX12_cut_242 (nle rfl) (nle rfl) ?_
          refine gn_inc (i := 3) (a := i) (q := 1) rfl dX12_cut_244 (nle rfl) rfl ?_
          refine go_goto (tgt := 208) dX12_cut_247 (by decide) ?_
          have iH := ih (fun j hj => by
            by_cases e : j = i
            · rw [e]; exact hc
            · exact hn j (by omega))
          rw [show dgF B a (min (i + 1) 4) = 10 * dgF B a (min i 4) + B (a + i) - 48 by rw [show min (i + 1) 4 = i + 1 by omega, show min i 4 = i by omega, dgF]; omega] at iH
          exact iH
      · skip
        rw [pit_f hc]
        refine go_c1 ?_
        refine gz_eq (by omega) (tgt := 250) dX12_cut_218 (by decide) (fun h218 => ?_) (fun h218 => by exfalso; omega)
        exact tail i (Nat.pos_of_ne_zero (fun z => hc (by rw [z]; exact hl))) (by omega) hn hc
  exact keyA 0 (Nat.zero_le _) (fun j h => absurd h (Nat.not_lt_zero j))
theorem tkN_gt {B : Nat → Nat} {n a : Nat} (h : a < n) : a < tkN B n a := by
  unfold tkN
  rw [pit_t h]
  by_cases l : isLt (B a)
  · rw [pit_t l]; exact en_gt ⟨h, l⟩
  · rw [pit_f l]
    by_cases d : isDg (B a)
    · rw [pit_t d]; exact en_gt ⟨h, d⟩
    · rw [pit_f d]; omega
/-- the reference's tokens, the first z of them -/
def TkM (m : Me) (B : Nat → Nat) (n z : Nat) : Prop := gI m 274 10 = nI z ∧ ∀ j, j < z → gI m 277 j = nI (rk (tK B n j)) ∧ gI m 278 j = nI (tP B n j) ∧ (tK B n j = 24 → gI m 279 j = nI (tD B n j)) ∧ (tK B n j ≤ 23 → gJ m 280 j = lN (nkM (tL B n j)))
theorem TkM.put {m m' : Me} {B : Nat → Nat} {n z a : Nat} {v : Int32} {l : Int64} (h : TkM m B n z) (ha : tP B n z = a) (hp : PuM m m' z (nI (rk (tkK B n a))) (nI a) v l) (hv : tkK B n a = 24 → v = nI (dgF B a (en B n isDg a - a))) (hl : tkK B n a ≤ 23 → l = lN (nkM (lsF B a (en B n isLt a - a)))) : TkM m' B n (z + 1) := by
  subst ha
  obtain ⟨p1, p2, p3, p4, p5, p6⟩ := hp
  refine ⟨by rw [p2]; exact upd_same, fun j hj => ?_⟩
  by_cases e : j = z
  · subst e
    rw [p3, p4, p5, p6, upd_same, upd_same, upd_same, updL_same]
    exact ⟨rfl, rfl, hv, hl⟩
  · rw [p3, p4, p5, p6, upd_ne e, upd_ne e, upd_ne e, updL_ne e]
    exact h.2 j (by omega)
theorem TpM.of {m m' : Me} {B : Nat → Nat} {n : Nat} (c : Fm m m') (h4 : gI m' 274 4 = gI m 274 4) (h : TpM m B n) : TpM m' B n := ⟨h.1, by rw [h4]; exact h.2.1, fun i hi => by rw [c.at (by decide)]; exact h.2.2.1 i hi, h.2.2.2⟩
set_option maxRecDepth 100000 in
set_option maxHeartbeats 8000000 in
theorem ex_cut {m : Me} {B : Nat → Nat} {n : Nat} (hx : Wf12 m.1 (gR m)) (hT : TpM m B n) (hk : ∀ k, k < 23 → gJ m 281 k = kwM k) : Ev mX12_cut [.ref 274] m (fun o m' => o = none ∧ Fm m m' ∧ (∀ k, k ≠ 10 → gI m' 274 k = gI m 274 k) ∧ ∃ z, TkM m' B n z ∧ 0 < z ∧ z ≤ 401 ∧ (∀ j, j + 1 < z → tK B n j ≠ 34) ∧ (z = 401 ∨ tK B n (z - 1) = 34)) := by
  refine ⟨plmX12_cut, nle rfl, ?_⟩
  have hn2 := hT.1
  have key : ∀ (K a z : Nat) (m1 : Me) (x2 x3 x4 x5 x6 x7 : Option Value), n - a = K → a ≤ n → tkQ B n z ≤ a → (∀ i, tkQ B n z ≤ i → i < a → inP B n isBk i) → z ≤ 401 → Fm m m1 → (∀ k, k ≠ 10 → gI m1 274 k = gI m 274 k) → TkM m1 B n z → (∀ j, j < z → tK B n j ≠ 34) → Go mX12_cut (fun o m' => o = none ∧ Fm m m' ∧ (∀ k, k ≠ 10 → gI m' 274 k = gI m 274 k) ∧ ∃ z, TkM m' B n z ∧ 0 < z ∧ z ≤ 401 ∧ (∀ j, j + 1 < z → tK B n j ≠ 34) ∧ (z = 401 ∨ tK B n (z - 1) = 34)) 7 [some (.ref 274), some (.int (nI a)), x2, x3, x4, x5, x6, x7] [] m1 0 0 := by
    intro K
    induction K using Nat.strongRecOn with
    | _ K ih =>
    intro a z m1 x2 x3 x4 x5 x6 x7 hK ha hq hbk hz cF cK hS hb
    have hx := cF.to (F := Wf12) hx
    have hT := TpM.of cF (cK 4 (by decide)) hT
    have hk' : ∀ k, k < 23 → gJ m1 281 k = kwM k := fun k h => by rw [cF.aj (by decide)]; exact hk k h
    have hsz := hS.1
    by_cases hz4 : z = 401
    · subst hz4
      refine go_aload_n (q := 0) (i := 0) rfl rfl dX12_cut_7 ?_
      refine go_getI lf12_208 rfl hx.o dX12_cut_8 ?_
      rw [hsz]
      refine go_sipush (v := nI 400) (by decide) dX12_cut_11 ?_
      refine gn_gt (by omega) (by omega) (tgt := 294) dX12_cut_14 (by decide) (fun h14 => ?_) (fun h14 => by exfalso; omega)
      refine go_vret rfl ⟨Nat.zero_le _, Nat.zero_le _⟩ dX12_cut_294 ?_
      exact ⟨rfl, cF, cK, 401, hS, by omega, by omega, fun j hj => hb j (by omega), Or.inl rfl⟩
    · have hz0 : z ≤ 400 := by omega
      have hPe : ¬ inP B n isBk a → tP B n z = a := fun h => en_u hq hbk h
      by_cases hn : a < n
      · have hb8 : B a < 256 := hT.2.2.2 a
        have hbe : bM B n a = nI (B a) := if_pos hn
        have nxt : tP B n z = a → ∀ (m3 : Me) (v : Int32) (l : Int64) (b : Nat) (x2 x3 x4 x5 x6 x7 : Option Value), PuM m1 m3 z (nI (rk (tkK B n a))) (nI a) v l → (tkK B n a = 24 → v = nI (dgF B a (en B n isDg a - a))) → (tkK B n a ≤ 23 → l = lN (nkM (lsF B a (en B n isLt a - a)))) → b = tkN B n a → Go mX12_cut (fun o m' => o = none ∧ Fm m m' ∧ (∀ k, k ≠ 10 → gI m' 274 k = gI m 274 k) ∧ ∃ z, TkM m' B n z ∧ 0 < z ∧ z ≤ 401 ∧ (∀ j, j + 1 < z → tK B n j ≠ 34) ∧ (z = 401 ∨ tK B n (z - 1) = 34)) 7 [some (.ref 274), some (.int (nI b)), x2, x3, x4, x5, x6, x7] [] m3 0 0 := by
          intro hP m3 v l b x2 x3 x4 x5 x6 x7 p hv hl hb2
          have hbg : a < b := by rw [hb2]; exact tkN_gt hn
          have hbn : b ≤ n := by rw [hb2]; exact tkN_le (by omega)
          have hqb : tkQ B n (z + 1) = b := by rw [hb2, ← hP]; rfl
          exact ih (n - b) (by omega) b (z + 1) m3 x2 x3 x4 x5 x6 x7 rfl hbn (by omega) (fun i h1 h2 => absurd h2 (by omega)) (by omega) (cF.tr p.1) (fun k h => by rw [p.2.1, upd_ne h]; exact cK k h) (hS.put hP p hv hl) (fun j hj => by
            by_cases e : j = z
            · rw [e]
              show tkK B n (tP B n z) ≠ 34
              rw [hP]
              unfold tkK
              rw [pit_t hn]
              by_cases l1 : isLt (B a)
              · rw [pit_t l1]; have := kwI_le (lsF B a (en B n isLt a - a)); split <;> omega
              · rw [pit_f l1]
                by_cases d1 : isDg (B a)
                · rw [pit_t d1]; split <;> omega
                · rw [pit_f d1]; unfold sgK; repeat' split
                  all_goals decide
            · exact hb j (by omega))
        refine go_aload_n (q := 0) (i := 0) rfl rfl dX12_cut_7 ?_
        refine go_getI lf12_208 rfl hx.o dX12_cut_8 ?_
        rw [hsz]
        refine go_sipush (v := nI 400) (by decide) dX12_cut_11 ?_
        refine gn_gt (by omega) (by omega) (tgt := 294) dX12_cut_14 (by decide) (fun h14 => by exfalso; omega) (fun h14 => ?_)
        refine go_aload_n (q := 0) (i := 0) rfl rfl dX12_cut_17 ?_
        refine go_iload_n (q := 1) (i := 1) rfl rfl dX12_cut_18 ?_
        refine go_callV okmX12_byteAt lmX12_211 ⟨nle rfl, nle rfl⟩ hx.o ⟨by decide, rfl⟩ (ex_byteAt (i := a) hx hT (by omega)) npmX12_byteAt rfl (nle rfl) ⟨nle rfl, nle rfl⟩ dX12_cut_19 ?_
        rintro _ mz ⟨rfl, hz⟩
        subst mz
        rw [hbe]
        refine go_c1 ?_
        refine go_istore_n (q := 2) (i := 2) rfl dX12_cut_22 (nle rfl) (nle rfl) ?_
        refine go_iload_n (q := 1) (i := 1) rfl rfl dX12_cut_23 ?_
        refine go_aload_n (q := 0) (i := 0) rfl rfl dX12_cut_24 ?_
        refine go_getI lf12_199 rfl hx.o dX12_cut_25 ?_
        rw [hT.2.1]
        refine gn_lt (by omega) (by omega) (tgt := 43) dX12_cut_28 (by decide) (fun h28 => ?_) (fun h28 => by exfalso; omega)
        refine go_iload_n (q := 2) (i := 2) rfl rfl dX12_cut_43 ?_
        refine go_bipush (v := nI 9) (by decide) dX12_cut_44 ?_
        refine gn_eq (by omega) (by omega) (tgt := 67) dX12_cut_46 (by decide) (fun h46 => ?_) (fun h46 => ?_)
        · skip
          refine gn_inc (i := 1) (a := a) (q := 1) rfl dX12_cut_67 (nle rfl) rfl ?_
          refine go_goto (tgt := 291) dX12_cut_70 (by decide) ?_
          refine go_goto (tgt := 7) dX12_cut_291 (by decide) ?_
          exact ih (n - (a + 1)) (by omega) (a + 1) z m1 _ _ _ _ _ _ rfl (by omega) (by omega) (fun i h1 h2 => by
            by_cases e : i = a
            · rw [e]; exact ⟨hn, by unfold isBk; omega⟩
            · exact hbk i h1 (by omega)) hz cF cK hS hb
        · skip
          refine go_iload_n (q := 2) (i := 2) rfl rfl dX12_cut_49 ?_
          refine go_bipush (v := nI 10) (by decide) dX12_cut_50 ?_
          refine gn_eq (by omega) (by omega) (tgt := 67) dX12_cut_52 (by decide) (fun h52 => ?_) (fun h52 => ?_)
          · skip
            refine gn_inc (i := 1) (a := a) (q := 1) rfl dX12_cut_67 (nle rfl) rfl ?_
            refine go_goto (tgt := 291) dX12_cut_70 (by decide) ?_
            refine go_goto (tgt := 7) dX12_cut_291 (by decide) ?_
            exact ih (n - (a + 1)) (by omega) (a + 1) z m1 _ _ _ _ _ _ rfl (by omega) (by omega) (fun i h1 h2 => by
              by_cases e : i = a
              · rw [e]; exact ⟨hn, by unfold isBk; omega⟩
              · exact hbk i h1 (by omega)) hz cF cK hS hb
          · skip
            refine go_iload_n (q := 2) (i := 2) rfl rfl dX12_cut_55 ?_
            refine go_bipush (v := nI 13) (by decide) dX12_cut_56 ?_
            refine gn_eq (by omega) (by omega) (tgt := 67) dX12_cut_58 (by decide) (fun h58 => ?_) (fun h58 => ?_)
            · skip
              refine gn_inc (i := 1) (a := a) (q := 1) rfl dX12_cut_67 (nle rfl) rfl ?_
              refine go_goto (tgt := 291) dX12_cut_70 (by decide) ?_
              refine go_goto (tgt := 7) dX12_cut_291 (by decide) ?_
              exact ih (n - (a + 1)) (by omega) (a + 1) z m1 _ _ _ _ _ _ rfl (by omega) (by omega) (fun i h1 h2 => by
                by_cases e : i = a
                · rw [e]; exact ⟨hn, by unfold isBk; omega⟩
                · exact hbk i h1 (by omega)) hz cF cK hS hb
            · skip
              refine go_iload_n (q := 2) (i := 2) rfl rfl dX12_cut_61 ?_
              refine go_bipush (v := nI 32) (by decide) dX12_cut_62 ?_
              refine gn_ne (by omega) (by omega) (tgt := 73) dX12_cut_64 (by decide) (fun h64 => ?_) (fun h64 => ?_)
              · skip
                have hP := hPe (fun z => by have := z.2; unfold isBk at this; omega)
                refine go_iload_n (q := 2) (i := 2) rfl rfl dX12_cut_73 ?_
                refine go_callS okmX12_isLetter lmX12_219 ⟨nle rfl, nle rfl⟩ (ex_isLetter) npmX12_isLetter rfl (nle rfl) ⟨nle rfl, nle rfl⟩ dX12_cut_74 ?_
                rintro _ mz ⟨rfl, hz⟩
                subst mz
                rw [ltS_n hb8]
                by_cases hl : isLt (B a)
                · skip
                  rw [pit_t hl]
                  refine go_c1 ?_
                  refine gz_eq (by omega) (tgt := 196) dX12_cut_77 (by decide) (fun h77 => by exfalso; omega) (fun h77 => ?_)
                  refine go_iconst (v := nI 0) (by decide) dX12_cut_80 ?_
                  refine go_istore_n (q := 3) (i := 3) rfl dX12_cut_81 (nle rfl) (nle rfl) ?_
                  refine go_lconst (v := 0) (by decide) dX12_cut_82 ?_
                  refine go_lstore (i := 4) dX12_cut_83 (nle rfl) (nle rfl) ?_
                  exact cut_l (x5 := none) hx hT hz0 hsz ⟨hn, hl⟩ hk' (fun m' l x2 x3 x4 x5 x6 x7 hp hl' => nxt hP m' _ l _ x2 x3 x4 x5 x6 x7 hp (fun h => (lt_dg hl (tkK_24 h).1.2).elim) hl' (by unfold tkN; rw [pit_t hn, pit_t hl]))
                · skip
                  rw [pit_f hl]
                  refine go_c1 ?_
                  refine gz_eq (by omega) (tgt := 196) dX12_cut_77 (by decide) (fun h77 => ?_) (fun h77 => by exfalso; omega)
                  refine go_iload_n (q := 2) (i := 2) rfl rfl dX12_cut_196 ?_
                  refine go_callS okmX12_isDigit lmX12_223 ⟨nle rfl, nle rfl⟩ (ex_isDigit) npmX12_isDigit rfl (nle rfl) ⟨nle rfl, nle rfl⟩ dX12_cut_197 ?_
                  rintro _ mz ⟨rfl, hz⟩
                  subst mz
                  rw [dgS_n hb8]
                  by_cases hd : isDg (B a)
                  · skip
                    rw [pit_t hd]
                    refine go_c1 ?_
                    refine gz_eq (by omega) (tgt := 275) dX12_cut_200 (by decide) (fun h200 => by exfalso; omega) (fun h200 => ?_)
                    refine go_iconst (v := nI 0) (by decide) dX12_cut_203 ?_
                    refine go_istore_n (q := 3) (i := 3) rfl dX12_cut_204 (nle rfl) (nle rfl) ?_
                    refine go_iconst (v := nI 0) (by decide) dX12_cut_205 ?_
                    refine go_istore (i := 4) dX12_cut_206 (nle rfl) (nle rfl) ?_
                    exact cut_d hx hT hz0 hsz ⟨hn, hd⟩ (fun m' v x2 x3 x4 x5 x6 x7 hp hv' => nxt hP m' v _ _ x2 x3 x4 x5 x6 x7 hp hv' (fun h => (hl (tkK_23 h).1.2).elim) (by unfold tkN; rw [pit_t hn, pit_f hl, pit_t hd]))
                  · skip
                    rw [pit_f hd]
                    refine go_c1 ?_
                    refine gz_eq (by omega) (tgt := 275) dX12_cut_200 (by decide) (fun h200 => ?_) (fun h200 => by exfalso; omega)
                    refine go_iload_n (q := 1) (i := 1) rfl rfl dX12_cut_275 ?_
                    refine go_aload_n (q := 0) (i := 0) rfl rfl dX12_cut_276 ?_
                    refine go_iload_n (q := 1) (i := 1) rfl rfl dX12_cut_277 ?_
                    refine go_iload_n (q := 2) (i := 2) rfl rfl dX12_cut_278 ?_
                    refine go_aload_n (q := 0) (i := 0) rfl rfl dX12_cut_279 ?_
                    refine go_iload_n (q := 1) (i := 1) rfl rfl dX12_cut_280 ?_
                    refine go_iconst (v := nI 1) (by decide) dX12_cut_281 ?_
                    refine gn_add dX12_cut_282 ?_
                    refine go_callV okmX12_byteAt lmX12_211 ⟨nle rfl, nle rfl⟩ hx.o ⟨by decide, rfl⟩ (ex_byteAt (i := a + 1) hx hT (by omega)) npmX12_byteAt rfl (nle rfl) ⟨nle rfl, nle rfl⟩ dX12_cut_283 ?_
                    rintro _ mz ⟨rfl, hz⟩
                    subst mz
                    refine go_c1 ?_
                    refine go_callV okmX12_sign lmX12_226 ⟨nle rfl, nle rfl⟩ hx.o ⟨by decide, rfl⟩ (ex_sign hx hz0 hsz hb8) npmX12_sign rfl (nle rfl) ⟨nle rfl, nle rfl⟩ dX12_cut_286 ?_
                    rintro _ m3 ⟨rfl, hp⟩
                    refine go_c1 ?_
                    refine gn_add dX12_cut_289 ?_
                    refine go_istore_n (q := 1) (i := 1) rfl dX12_cut_290 (nle rfl) (nle rfl) ?_
                    refine go_goto (tgt := 7) dX12_cut_291 (by decide) ?_
                    have hks : tkK B n a = sgK (B a) := tkK_s hn hl hd
                    have h25 := sgK_ge (B a)
                    exact nxt hP m3 _ _ (a + 1) _ _ _ _ _ _ (by rw [hks]; exact hp) (fun h => by omega) (fun h => by omega) (by unfold tkN; rw [pit_t hn, pit_f hl, pit_f hd])
              · skip
                refine gn_inc (i := 1) (a := a) (q := 1) rfl dX12_cut_67 (nle rfl) rfl ?_
                refine go_goto (tgt := 291) dX12_cut_70 (by decide) ?_
                refine go_goto (tgt := 7) dX12_cut_291 (by decide) ?_
                exact ih (n - (a + 1)) (by omega) (a + 1) z m1 _ _ _ _ _ _ rfl (by omega) (by omega) (fun i h1 h2 => by
                  by_cases e : i = a
                  · rw [e]; exact ⟨hn, by unfold isBk; omega⟩
                  · exact hbk i h1 (by omega)) hz cF cK hS hb
      · have hae : a = n := by omega
        have hP := hPe (fun z => hn z.1)
        refine go_aload_n (q := 0) (i := 0) rfl rfl dX12_cut_7 ?_
        refine go_getI lf12_208 rfl hx.o dX12_cut_8 ?_
        rw [hsz]
        refine go_sipush (v := nI 400) (by decide) dX12_cut_11 ?_
        refine gn_gt (by omega) (by omega) (tgt := 294) dX12_cut_14 (by decide) (fun h14 => by exfalso; omega) (fun h14 => ?_)
        refine go_aload_n (q := 0) (i := 0) rfl rfl dX12_cut_17 ?_
        refine go_iload_n (q := 1) (i := 1) rfl rfl dX12_cut_18 ?_
        refine go_callV okmX12_byteAt lmX12_211 ⟨nle rfl, nle rfl⟩ hx.o ⟨by decide, rfl⟩ (ex_byteAt (i := a) hx hT (by omega)) npmX12_byteAt rfl (nle rfl) ⟨nle rfl, nle rfl⟩ dX12_cut_19 ?_
        rintro _ mz ⟨rfl, hz⟩
        subst mz
        refine go_c1 ?_
        refine go_istore_n (q := 2) (i := 2) rfl dX12_cut_22 (nle rfl) (nle rfl) ?_
        refine go_iload_n (q := 1) (i := 1) rfl rfl dX12_cut_23 ?_
        refine go_aload_n (q := 0) (i := 0) rfl rfl dX12_cut_24 ?_
        refine go_getI lf12_199 rfl hx.o dX12_cut_25 ?_
        rw [hT.2.1]
        refine gn_lt (by omega) (by omega) (tgt := 43) dX12_cut_28 (by decide) (fun h28 => by exfalso; omega) (fun h28 => ?_)
        refine go_aload_n (q := 0) (i := 0) rfl rfl dX12_cut_31 ?_
        refine go_iconst (v := nI 0) (by decide) dX12_cut_32 ?_
        refine go_aload_n (q := 0) (i := 0) rfl rfl dX12_cut_33 ?_
        refine go_getI lf12_199 rfl hx.o dX12_cut_34 ?_
        rw [hT.2.1]
        refine go_iconst (v := nI 0) (by decide) dX12_cut_37 ?_
        refine go_lconst (v := 0) (by decide) dX12_cut_38 ?_
        refine go_callV okmX12_token lmX12_215 ⟨nle rfl, nle rfl⟩ hx.o ⟨by decide, rfl⟩ (ex_token hx hz0 hsz) npmX12_token rfl (nle rfl) ⟨nle rfl, nle rfl⟩ dX12_cut_39 ?_
        rintro _ m3 ⟨rfl, hp⟩
        refine go_c0 ?_
        refine go_vret rfl ⟨Nat.zero_le _, Nat.zero_le _⟩ dX12_cut_42 ?_
        have h34 : tkK B n a = 34 := tkK_e hn
        exact ⟨rfl, cF.tr hp.1, fun k h => by rw [hp.2.1, upd_ne h]; exact cK k h, z + 1, hS.put hP (by rw [h34, hae]; exact hp) (fun h => by omega) (fun h => by omega), by omega, by omega, fun j hj => hb j (by omega), Or.inr (by rw [Nat.add_sub_cancel]; show tkK B n (tP B n z) = 34; rw [hP]; exact h34)⟩
  refine go_aload_n (q := 0) (i := 0) rfl rfl dX12_cut_0 ?_
  refine go_iconst (v := nI 0) (by decide) dX12_cut_1 ?_
  refine go_putI lf12_208 rfl (Or.inl rfl) hx.o dX12_cut_2 ?_
  refine go_iconst (v := nI 0) (by decide) dX12_cut_5 ?_
  refine go_istore_n (q := 1) (i := 1) rfl dX12_cut_6 (nle rfl) (nle rfl) ?_
  exact key n 0 0 _ _ _ _ _ _ _ rfl (Nat.zero_le _) (Nat.le_refl _) (fun i h1 h2 => absurd h2 (Nat.not_lt_zero i)) (by omega) (Fx.I Fx.rf (Or.inl rfl)) (fun k h => by rw [gI_s, upd_ne h]) ⟨by rw [gI_s]; exact upd_same, fun j h => absurd h (Nat.not_lt_zero j)⟩ (fun j h => absurd h (Nat.not_lt_zero j))
