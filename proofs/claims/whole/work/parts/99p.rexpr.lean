theorem XB.clr {c0 : Nat} {B : Nat → Nat} {n z : Nat} {m0 m : Me} {s : Nat × Nat} {W : List Nat} {D : Cs} (h : XB c0 B n z m0 m s W D) : XB c0 B n z m0 (sI m 274 (upd (gI m 274) 54 (nI 0))) s [] D := h.fe ⟨by rw [gI_s, upd_ne (by decide)]; exact h.r.1, fun i c hi => by rw [gI_n (by decide), gI_n (by decide)]; exact h.r.2.1 i c hi, by rw [gI_s, upd_same]; rfl, fun i k hi => by cases hi⟩ (Fe.p (Or.inr rfl))
theorem SI.cl {d v : Nat} {W : List Nat} {D : Cs} (h : SI d false (W, D)) (hd : 0 < d) : ∃ T, (eOut 1 W D).1 = 32 :: T ∧ eTok 33 v (W, D) = (T, (eOut 1 W D).2) := by
  obtain ⟨a, b, c⟩ := eOut_w (r := 1) (by decide) W D 3 h.1
  have hb : nB W = d := h.2.1
  rcases eS_1 a with e | ⟨T, e, t⟩
  · rw [e] at b
    have b : 0 = nB W := b
    omega
  · exact ⟨T, e, by rw [eTok_e, e]; rfl⟩
theorem SI.wo {d : Nat} {due : Bool} {W : List Nat} {D : Cs} (h : SI d due (W, D)) : ∀ k ∈ W, wO k := eS_o W 3 h.1
theorem eOut_o {r : Nat} {W : List Nat} {D : Cs} (h : ∀ k ∈ W, wO k) : ∀ k ∈ (eOut r W D).1, wO k := fun k hk => h k ((eOut_le (r := r) W D).2.2 k hk)
theorem eTok_ap {k v : Nat} {W W' : List Nat} {C D D' : Cs} (h : eTok k v (W, D) = (W', D')) : eTok k v (W, C ++ D) = (W', C ++ D') := by rw [eTok_app, h]
theorem gS_e {K : Nat → Nat} {s : Nat × Nat} {f d : Nat} {due : Bool} {s1 : Nat × Nat} (h : gSum K f d due s1 = gS K s) (h1 : s1.1 ≠ 0) : gS K s = s1 := by rw [← h, gSum_f h1]
set_option maxRecDepth 100000 in
set_option maxHeartbeats 4000000 in
theorem ex_x23 {c0 : Nat} {B : Nat → Nat} {n z : Nat} {m0 m : Me} {s s1 : Nat × Nat} {W : List Nat} {C D : Cs} (h : XB c0 B n z m0 m s1 W D) (hf : s1.1 ≠ 0) (hS : gS (kG B n z) s = s1) (hb : D.length + W.length ≤ 410) : Go mX12_expression (fun o m' => o = none ∧ ∃ W' D', XB c0 B n z m0 m' (gS (kG B n z) s) W' D' ∧ D'.length + W'.length ≤ 410 ∧ ∀ q, gS (kG B n z) s = (0, q) → W' = [] ∧ D' = C ++ suC (kG B n z) (vG B n z) s.2 q ∧ gI m' 274 12 = nI 0 ∧ D'.length ≤ q) 23 [some (.ref 274), some (.int (nI 0)), some (.int (nI 1))] [] m 0 0 := by
  have hx := h.x
  have hs9 := h.g.2.2.2.1
  refine go_aload_n (q := 0) (i := 0) rfl rfl dX12_expression_23 ?_
  refine go_bipush (v := nI 6) (by decide) dX12_expression_24 ?_
  refine go_callV okmX12_is lmX12_248 ⟨nle rfl, nle rfl⟩ hx.o ⟨by decide, rfl⟩ (ex_is h.x h.t h.g (k := 32) (by decide)) npmX12_is rfl (nle rfl) ⟨nle rfl, nle rfl⟩ dX12_expression_26 ?_
  rintro _ mz ⟨rfl, hz⟩
  subst mz
  rw [if_neg (fun q => hf q.1)]
  refine go_c1 ?_
  refine gz_eq (by omega) (tgt := 84) dX12_expression_29 (by decide) (fun h29 => ?_) (fun h29 => by exfalso; omega)
  refine go_aload_n (q := 0) (i := 0) rfl rfl dX12_expression_84 ?_
  refine go_callV okmX12_unit lmX12_350 ⟨nle rfl, nle rfl⟩ hx.o ⟨by decide, rfl⟩ (ex_unit h (by omega)) npmX12_unit rfl (nle rfl) ⟨nle rfl, nle rfl⟩ dX12_expression_85 ?_
  rintro _ m2 ⟨rfl, D2, h2, -, -, e2, -⟩
  have hx := h2.x
  have e2 := e2 (Or.inl hf)
  subst e2
  rw [show gTk (kG B n z) (if isU (kG B n z s1.2) then kG B n z s1.2 else 24) s1 = s1 from if_pos hf] at h2
  refine go_c0 ?_
  refine go_aload_n (q := 0) (i := 0) rfl rfl dX12_expression_88 ?_
  refine go_getI lf12_230 rfl hx.o dX12_expression_89 ?_
  rw [h2.fa]
  refine gz_le (by omega) (tgt := 96) dX12_expression_92 (by decide) (fun h92 => by exfalso; omega) (fun h92 => ?_)
  refine go_vret rfl ⟨Nat.zero_le _, Nat.zero_le _⟩ dX12_expression_95 ?_
  refine ⟨rfl, W, D2, by rw [hS]; exact h2, hb, fun q hq => ?_⟩
  rw [hS] at hq
  rw [hq] at hf
  exact absurd rfl hf
set_option maxRecDepth 100000 in
set_option maxHeartbeats 4000000 in
theorem ex_x96 {c0 : Nat} {B : Nat → Nat} {n z : Nat} {m0 m : Me} {s s1 : Nat × Nat} {W : List Nat} {C D : Cs} (h : XB c0 B n z m0 m s1 W D) (hf : s1.1 ≠ 0) (hS : gS (kG B n z) s = s1) (hb : D.length + W.length ≤ 410) (hw : W.length ≤ 24) (hwo : ∀ k ∈ W, wO k) : Go mX12_expression (fun o m' => o = none ∧ ∃ W' D', XB c0 B n z m0 m' (gS (kG B n z) s) W' D' ∧ D'.length + W'.length ≤ 410 ∧ ∀ q, gS (kG B n z) s = (0, q) → W' = [] ∧ D' = C ++ suC (kG B n z) (vG B n z) s.2 q ∧ gI m' 274 12 = nI 0 ∧ D'.length ≤ q) 96 [some (.ref 274), some (.int (nI 0)), some (.int (nI 1))] [] m 0 0 := by
  have hx := h.x
  refine go_aload_n (q := 0) (i := 0) rfl rfl dX12_expression_96 ?_
  refine go_bipush (v := nI 7) (by decide) dX12_expression_97 ?_
  refine go_callV okmX12_is lmX12_248 ⟨nle rfl, nle rfl⟩ hx.o ⟨by decide, rfl⟩ (ex_is h.x h.t h.g (k := 33) (by decide)) npmX12_is rfl (nle rfl) ⟨nle rfl, nle rfl⟩ dX12_expression_99 ?_
  rintro _ mz ⟨rfl, hz⟩
  subst mz
  rw [if_neg (fun q => hf q.1)]
  refine go_c1 ?_
  refine gz_eq (by omega) (tgt := 145) dX12_expression_102 (by decide) (fun h102 => ?_) (fun h102 => by exfalso; omega)
  refine go_aload_n (q := 0) (i := 0) rfl rfl dX12_expression_145 ?_
  refine go_bipush (v := nI 8) (by decide) dX12_expression_146 ?_
  refine go_callV okmX12_is lmX12_248 ⟨nle rfl, nle rfl⟩ hx.o ⟨by decide, rfl⟩ (ex_is h.x h.t h.g (k := 27) (by decide)) npmX12_is rfl (nle rfl) ⟨nle rfl, nle rfl⟩ dX12_expression_148 ?_
  rintro _ mz ⟨rfl, hz⟩
  subst mz
  rw [if_neg (fun q => hf q.1)]
  refine go_c1 ?_
  refine gz_ne (by omega) (tgt := 181) dX12_expression_151 (by decide) (fun h151 => by exfalso; omega) (fun h151 => ?_)
  refine go_aload_n (q := 0) (i := 0) rfl rfl dX12_expression_154 ?_
  refine go_bipush (v := nI 9) (by decide) dX12_expression_155 ?_
  refine go_callV okmX12_is lmX12_248 ⟨nle rfl, nle rfl⟩ hx.o ⟨by decide, rfl⟩ (ex_is h.x h.t h.g (k := 28) (by decide)) npmX12_is rfl (nle rfl) ⟨nle rfl, nle rfl⟩ dX12_expression_157 ?_
  rintro _ mz ⟨rfl, hz⟩
  subst mz
  rw [if_neg (fun q => hf q.1)]
  refine go_c1 ?_
  refine gz_ne (by omega) (tgt := 181) dX12_expression_160 (by decide) (fun h160 => by exfalso; omega) (fun h160 => ?_)
  refine go_aload_n (q := 0) (i := 0) rfl rfl dX12_expression_163 ?_
  refine go_bipush (v := nI 10) (by decide) dX12_expression_164 ?_
  refine go_callV okmX12_is lmX12_248 ⟨nle rfl, nle rfl⟩ hx.o ⟨by decide, rfl⟩ (ex_is h.x h.t h.g (k := 29) (by decide)) npmX12_is rfl (nle rfl) ⟨nle rfl, nle rfl⟩ dX12_expression_166 ?_
  rintro _ mz ⟨rfl, hz⟩
  subst mz
  rw [if_neg (fun q => hf q.1)]
  refine go_c1 ?_
  refine gz_ne (by omega) (tgt := 181) dX12_expression_169 (by decide) (fun h169 => by exfalso; omega) (fun h169 => ?_)
  refine go_aload_n (q := 0) (i := 0) rfl rfl dX12_expression_172 ?_
  refine go_bipush (v := nI 15) (by decide) dX12_expression_173 ?_
  refine go_callV okmX12_is lmX12_248 ⟨nle rfl, nle rfl⟩ hx.o ⟨by decide, rfl⟩ (ex_is h.x h.t h.g (k := 30) (by decide)) npmX12_is rfl (nle rfl) ⟨nle rfl, nle rfl⟩ dX12_expression_175 ?_
  rintro _ mz ⟨rfl, hz⟩
  subst mz
  rw [if_neg (fun q => hf q.1)]
  refine go_c1 ?_
  refine gz_eq (by omega) (tgt := 185) dX12_expression_178 (by decide) (fun h178 => ?_) (fun h178 => by exfalso; omega)
  refine go_iconst (v := nI 0) (by decide) dX12_expression_185 ?_
  refine go_istore_n (q := 2) (i := 2) rfl dX12_expression_186 (nle rfl) (nle rfl) ?_
  refine go_iload_n (q := 2) (i := 2) rfl rfl dX12_expression_187 ?_
  refine gz_ne (by omega) (tgt := 210) dX12_expression_188 (by decide) (fun h188 => by exfalso; omega) (fun h188 => ?_)
  refine go_aload_n (q := 0) (i := 0) rfl rfl dX12_expression_191 ?_
  refine go_getI lf12_257 rfl hx.o dX12_expression_192 ?_
  refine go_iload_n (q := 1) (i := 1) rfl rfl dX12_expression_195 ?_
  refine go_icmp_le (tgt := 204) dX12_expression_196 (by decide) (fun h196 => ?_) (fun h196 => ?_)
  · skip
    refine go_aload_n (q := 0) (i := 0) rfl rfl dX12_expression_204 ?_
    refine go_iconst (v := nI 0) (by decide) dX12_expression_205 ?_
    refine go_callV okmX12_comesOut lmX12_353 ⟨nle rfl, nle rfl⟩ hx.o ⟨by decide, rfl⟩ (ex_out0 h.x h.r h.c (by omega) hwo (by omega)) npmX12_comesOut rfl (nle rfl) ⟨nle rfl, nle rfl⟩ dX12_expression_206 ?_
    rintro _ m3 ⟨rfl, r3, c3⟩
    have h3 := h.fe r3 c3
    have hx := h3.x
    have hle := eOut_le (r := 1) W D
    refine go_c0 ?_
    refine go_vret rfl ⟨Nat.zero_le _, Nat.zero_le _⟩ dX12_expression_209 ?_
    refine ⟨rfl, _, _, by rw [hS]; exact h3, by omega, fun q hq => ?_⟩
    rw [hS] at hq
    rw [hq] at hf
    exact absurd rfl hf
  · skip
    refine go_aload_n (q := 0) (i := 0) rfl rfl dX12_expression_199 ?_
    refine go_iconst (v := nI 1) (by decide) dX12_expression_200 ?_
    refine go_callV okmX12_fail lmX12_245 ⟨nle rfl, nle rfl⟩ hx.o ⟨by decide, rfl⟩ (ex_gfail h.x h.t h.g (c := 1) (by decide)) npmX12_fail rfl (nle rfl) ⟨nle rfl, nle rfl⟩ dX12_expression_201 ?_
    rintro _ m2 ⟨rfl, f1, f2⟩
    have h := h.fq f1 f2
    have hx := h.x
    rw [show gFl 1 s1 = s1 from if_pos hf] at h
    refine go_c0 ?_
    refine go_aload_n (q := 0) (i := 0) rfl rfl dX12_expression_204 ?_
    refine go_iconst (v := nI 0) (by decide) dX12_expression_205 ?_
    refine go_callV okmX12_comesOut lmX12_353 ⟨nle rfl, nle rfl⟩ hx.o ⟨by decide, rfl⟩ (ex_out0 h.x h.r h.c (by omega) hwo (by omega)) npmX12_comesOut rfl (nle rfl) ⟨nle rfl, nle rfl⟩ dX12_expression_206 ?_
    rintro _ m3 ⟨rfl, r3, c3⟩
    have h3 := h.fe r3 c3
    have hx := h3.x
    have hle := eOut_le (r := 1) W D
    refine go_c0 ?_
    refine go_vret rfl ⟨Nat.zero_le _, Nat.zero_le _⟩ dX12_expression_209 ?_
    refine ⟨rfl, _, _, by rw [hS]; exact h3, by omega, fun q hq => ?_⟩
    rw [hS] at hq
    rw [hq] at hf
    exact absurd rfl hf
set_option maxRecDepth 100000 in
set_option maxHeartbeats 8000000 in
theorem ex_expr {c0 : Nat} {B : Nat → Nat} {n z : Nat} {m0 m : Me} {s : Nat × Nat} {W : List Nat} {C : Cs} (hV : ∀ j, kG B n z j = 24 → vG B n z j < 65536) (h : XB c0 B n z m0 m s W C) (hop : s.1 = 0 → gI m 274 12 = nI 0) (hB : s.1 = 0 → C.length ≤ s.2) (hB2 : C.length ≤ 410) : Ev mX12_expression [.ref 274] m (fun o m' => o = none ∧ ∃ W' D', XB c0 B n z m0 m' (gS (kG B n z) s) W' D' ∧ D'.length + W'.length ≤ 410 ∧ ∀ q, gS (kG B n z) s = (0, q) → W' = [] ∧ D' = C ++ suC (kG B n z) (vG B n z) s.2 q ∧ gI m' 274 12 = nI 0 ∧ D'.length ≤ q) := by
  refine ⟨plmX12_expression, nle rfl, ?_⟩
  have key : ∀ f, (∀ (d : Nat) (m1 : Me) (s1 : Nat × Nat) (W : List Nat) (D : Cs), XB c0 B n z m0 m1 s1 W (C ++ D) → s1.1 = 0 → gI m1 274 12 = nI d → d ≤ 6 → SI d true (W, D) → (C ++ D).length + W.length ≤ s1.2 → 401 ≤ f + s1.2 → gSum (kG B n z) f d true s1 = gS (kG B n z) s → (∀ q, gS (kG B n z) s = (0, q) → eR (kG B n z) (vG B n z) (q - s1.2) s1.2 (W, D) = eR (kG B n z) (vG B n z) (q - s.2) s.2 ([], [])) → Go mX12_expression (fun o m' => o = none ∧ ∃ W' D', XB c0 B n z m0 m' (gS (kG B n z) s) W' D' ∧ D'.length + W'.length ≤ 410 ∧ ∀ q, gS (kG B n z) s = (0, q) → W' = [] ∧ D' = C ++ suC (kG B n z) (vG B n z) s.2 q ∧ gI m' 274 12 = nI 0 ∧ D'.length ≤ q) 23 [some (.ref 274), some (.int (nI 0)), some (.int (nI 1))] [] m1 0 0) ∧ (∀ (d : Nat) (m1 : Me) (s1 : Nat × Nat) (W : List Nat) (D : Cs), XB c0 B n z m0 m1 s1 W (C ++ D) → s1.1 = 0 → gI m1 274 12 = nI d → d ≤ 6 → SI d false (W, D) → (C ++ D).length + W.length ≤ s1.2 → 401 ≤ f + s1.2 → gSum (kG B n z) f d false s1 = gS (kG B n z) s → (∀ q, gS (kG B n z) s = (0, q) → eR (kG B n z) (vG B n z) (q - s1.2) s1.2 (W, D) = eR (kG B n z) (vG B n z) (q - s.2) s.2 ([], [])) → Go mX12_expression (fun o m' => o = none ∧ ∃ W' D', XB c0 B n z m0 m' (gS (kG B n z) s) W' D' ∧ D'.length + W'.length ≤ 410 ∧ ∀ q, gS (kG B n z) s = (0, q) → W' = [] ∧ D' = C ++ suC (kG B n z) (vG B n z) s.2 q ∧ gI m' 274 12 = nI 0 ∧ D'.length ≤ q) 96 [some (.ref 274), some (.int (nI 0)), some (.int (nI 1))] [] m1 0 0) := by
    intro f
    induction f with
    | zero =>
      refine ⟨?_, ?_⟩
      · intro d m1 s1 W D h h0 hd hd6 hI hB hF hS hR
        have hz := h.t.2.1
        have hz2 := h.g.2.2.2.2.1
        omega
      · intro d m1 s1 W D h h0 hd hd6 hI hB hF hS hR
        have hz := h.t.2.1
        have hz2 := h.g.2.2.2.2.1
        omega
    | succ f ih =>
      refine ⟨?_, ?_⟩
      · skip
        intro d m1 s1 W D h h0 hd hd6 hI hB hF hS hR
        have hx := h.x
        have hz := h.t.2.1
        have hz2 := h.g.2.2.2.2.1
        have hs9 := h.g.2.2.2.1
        have hk35 : kG B n z s1.2 ≤ 35 := kG_le
        have hl20 : W.length ≤ 20 := hI.len hd6
        have hwo := hI.wo
        have hps := pr_z h0
        have hlen : (C ++ D).length = C.length + D.length := List.length_append
        rw [gSum, if_neg (fun w => w h0)] at hS
        have nx : ∀ (d' : Nat) (due' : Bool) (st : List Nat × Cs), gSum (kG B n z) f d' due' (0, s1.2 + 1) = gS (kG B n z) s → s1.2 < 400 → d' ≤ 6 → SI d' due' st → st = eTok (kG B n z s1.2) (vG B n z s1.2) (W, D) → ∀ q, gS (kG B n z) s = (0, q) → eR (kG B n z) (vG B n z) (q - (s1.2 + 1)) (s1.2 + 1) st = eR (kG B n z) (vG B n z) (q - s.2) s.2 ([], []) := by
          intro d' due' st g1 g2 g3 g4 g5 q hq
          have := (su_i (V := vG B n z) hV f d' due' (s1.2 + 1) q st (g1.trans hq) (by omega) (by omega) g3 g4).1
          have e := hR q hq
          rw [show q - s1.2 = (q - (s1.2 + 1)) + 1 by omega, eR_s] at e
          rw [g5]
          exact e
        rw [if_pos rfl] at hS
        by_cases hk : kG B n z s1.2 = 32
        · rw [if_pos hk] at hS
          refine go_aload_n (q := 0) (i := 0) rfl rfl dX12_expression_23 ?_
          refine go_bipush (v := nI 6) (by decide) dX12_expression_24 ?_
          refine go_callV okmX12_is lmX12_248 ⟨nle rfl, nle rfl⟩ hx.o ⟨by decide, rfl⟩ (ex_is h.x h.t h.g (k := 32) (by decide)) npmX12_is rfl (nle rfl) ⟨nle rfl, nle rfl⟩ dX12_expression_26 ?_
          rintro _ mz ⟨rfl, hz⟩
          subst mz
          rw [if_pos ⟨h0, by omega⟩]
          refine go_c1 ?_
          refine gz_eq (by omega) (tgt := 84) dX12_expression_29 (by decide) (fun h29 => by exfalso; omega) (fun h29 => ?_)
          refine go_aload_n (q := 0) (i := 0) rfl rfl dX12_expression_32 ?_
          refine go_getI lf12_257 rfl hx.o dX12_expression_33 ?_
          rw [hd]
          refine go_bipush (v := nI 6) (by decide) dX12_expression_36 ?_
          refine gn_ne (by omega) (by omega) (tgt := 46) dX12_expression_38 (by decide) (fun h38 => ?_) (fun h38 => ?_)
          · skip
            refine go_aload_n (q := 0) (i := 0) rfl rfl dX12_expression_46 ?_
            refine go_dup rfl dX12_expression_47 ?_
            refine go_getI lf12_257 rfl hx.o dX12_expression_48 ?_
            rw [hd]
            refine go_iconst (v := nI 1) (by decide) dX12_expression_51 ?_
            refine gn_add dX12_expression_52 ?_
            refine go_putI lf12_257 rfl (Or.inl rfl) hx.o dX12_expression_53 ?_
            have h3 := h.op (v := nI (d + 1))
            generalize e3 : sI m1 274 (upd (gI m1 274) 12 (nI (d + 1))) = m3 at h3 ⊢
            have hx := h3.x
            have hgo : ∀ a, a < z → gI m3 274 11 = nI a → kG B n z a < 34 := h3.nx h0 (by omega)
            refine go_aload_n (q := 0) (i := 0) rfl rfl dX12_expression_56 ?_
            refine go_callV okmX12_goesOn lmX12_251 ⟨nle rfl, nle rfl⟩ hx.o ⟨by decide, rfl⟩ (ex_goesOn h3.x h3.t h3.g hgo) npmX12_goesOn rfl (nle rfl) ⟨nle rfl, nle rfl⟩ dX12_expression_57 ?_
            rintro _ m4 ⟨rfl, f3, f4⟩
            have h4 := h3.fq f3 f4
            have hx := h4.x
            have o4 : gI m4 274 12 = nI (d + 1) := (f4.2 12 (by decide) (by decide) (by decide)).trans (by rw [← e3, gI_s, upd_same])
            refine go_c0 ?_
            refine go_aload_n (q := 0) (i := 0) rfl rfl dX12_expression_60 ?_
            refine go_getR lf12_131 rfl hx.o hx.r53 dX12_expression_61 ?_
            refine go_aload_n (q := 0) (i := 0) rfl rfl dX12_expression_64 ?_
            refine go_getI lf12_344 rfl hx.o dX12_expression_65 ?_
            rw [h4.w]
            refine go_bipush (v := nI 6) (by decide) dX12_expression_68 ?_
            refine go_iast (j := W.length) hx.i53 (by omega) (by first | decide | omega) rfl dX12_expression_70 ?_
            refine go_aload_n (q := 0) (i := 0) rfl rfl dX12_expression_71 ?_
            refine go_dup rfl dX12_expression_72 ?_
            refine go_getI lf12_344 rfl hx.o dX12_expression_73 ?_
            rw [gI_n (by decide), h4.w]
            refine go_iconst (v := nI 1) (by decide) dX12_expression_76 ?_
            refine gn_add dX12_expression_77 ?_
            refine go_putI lf12_344 rfl (Or.inl rfl) hx.o dX12_expression_78 ?_
            have h5 := h4.push (k := 32) (u := nI 6) rfl
            have o5 : gI (sI (sI m4 312 (upd (gI m4 312) W.length (nI 6))) 274 (upd (gI (sI m4 312 (upd (gI m4 312) W.length (nI 6))) 274) 54 (nI (W.length + 1)))) 274 12 = nI (d + 1) := by rw [gI_s, upd_ne (by decide), gI_n (by decide)]; exact o4
            generalize sI (sI m4 312 (upd (gI m4 312) W.length (nI 6))) 274 (upd (gI (sI m4 312 (upd (gI m4 312) W.length (nI 6))) 274) 54 (nI (W.length + 1))) = m5 at h5 o5 ⊢
            have hx := h5.x
            refine go_goto (tgt := 23) dX12_expression_81 (by decide) ?_
            rw [if_neg (by omega), hps] at hS
            have eg : gGo s1 = gTk (kG B n z) 32 s1 := gGo_t (fun _ => hk)
            rw [eg, hps] at h5
            rcases gTk_c (K := kG B n z) (k := 32) (p := s1.2) with ⟨e1, e2, e4⟩ | e1
            · rw [e1] at hS h5
              have hI2 := hI.brk (v := vG B n z s1.2)
              exact ih.1 (d + 1) m5 (0, s1.2 + 1) (32 :: W) D h5 rfl o5 (by omega) hI2 (by show (C ++ D).length + (W.length + 1) ≤ s1.2 + 1; omega) (by show 401 ≤ f + (s1.2 + 1); omega) hS (nx (d + 1) true (32 :: W, D) hS e4 (by omega) hI2 (by rw [hk]; rfl))
            · exact ex_x23 h5 e1 (gS_e hS e1) (by show _ + (W.length + 1) ≤ 410; omega)
          · skip
            refine go_aload_n (q := 0) (i := 0) rfl rfl dX12_expression_41 ?_
            refine go_iconst (v := nI 2) (by decide) dX12_expression_42 ?_
            refine go_callV okmX12_fail lmX12_245 ⟨nle rfl, nle rfl⟩ hx.o ⟨by decide, rfl⟩ (ex_gfailT h.x h.t h.g (c := 2) (by decide)) npmX12_fail rfl (nle rfl) ⟨nle rfl, nle rfl⟩ dX12_expression_43 ?_
            rintro _ m2 ⟨rfl, f1, f2, f2t⟩
            have h2 := h.fq f1 f2
            have hx := h2.x
            rw [show gFl 2 s1 = (2, s1.2) from if_neg (fun w => w h0)] at h2
            have o2 : gI m2 274 12 = nI d := (f2.2 12 (by decide) (by decide) (by decide)).trans hd
            refine go_c0 ?_
            refine go_aload_n (q := 0) (i := 0) rfl rfl dX12_expression_46 ?_
            refine go_dup rfl dX12_expression_47 ?_
            refine go_getI lf12_257 rfl hx.o dX12_expression_48 ?_
            rw [o2]
            refine go_iconst (v := nI 1) (by decide) dX12_expression_51 ?_
            refine gn_add dX12_expression_52 ?_
            refine go_putI lf12_257 rfl (Or.inl rfl) hx.o dX12_expression_53 ?_
            have h3 := h2.op (v := nI (d + 1))
            generalize e3 : sI m2 274 (upd (gI m2 274) 12 (nI (d + 1))) = m3 at h3 ⊢
            have hx := h3.x
            have hgo : ∀ a, a < z → gI m3 274 11 = nI a → kG B n z a < 34 := fun a ha hm => by
              have h11 : gI m2 274 11 = gI m1 274 11 := f2t
              rw [← e3, gI_s, upd_ne (by decide), h11] at hm
              exact h.nx h0 (by omega) a ha hm
            refine go_aload_n (q := 0) (i := 0) rfl rfl dX12_expression_56 ?_
            refine go_callV okmX12_goesOn lmX12_251 ⟨nle rfl, nle rfl⟩ hx.o ⟨by decide, rfl⟩ (ex_goesOn h3.x h3.t h3.g hgo) npmX12_goesOn rfl (nle rfl) ⟨nle rfl, nle rfl⟩ dX12_expression_57 ?_
            rintro _ m4 ⟨rfl, f3, f4⟩
            have h4 := h3.fq f3 f4
            have hx := h4.x
            have o4 : gI m4 274 12 = nI (d + 1) := (f4.2 12 (by decide) (by decide) (by decide)).trans (by rw [← e3, gI_s, upd_same])
            refine go_c0 ?_
            refine go_aload_n (q := 0) (i := 0) rfl rfl dX12_expression_60 ?_
            refine go_getR lf12_131 rfl hx.o hx.r53 dX12_expression_61 ?_
            refine go_aload_n (q := 0) (i := 0) rfl rfl dX12_expression_64 ?_
            refine go_getI lf12_344 rfl hx.o dX12_expression_65 ?_
            rw [h4.w]
            refine go_bipush (v := nI 6) (by decide) dX12_expression_68 ?_
            refine go_iast (j := W.length) hx.i53 (by omega) (by first | decide | omega) rfl dX12_expression_70 ?_
            refine go_aload_n (q := 0) (i := 0) rfl rfl dX12_expression_71 ?_
            refine go_dup rfl dX12_expression_72 ?_
            refine go_getI lf12_344 rfl hx.o dX12_expression_73 ?_
            rw [gI_n (by decide), h4.w]
            refine go_iconst (v := nI 1) (by decide) dX12_expression_76 ?_
            refine gn_add dX12_expression_77 ?_
            refine go_putI lf12_344 rfl (Or.inl rfl) hx.o dX12_expression_78 ?_
            have h5 := h4.push (k := 32) (u := nI 6) rfl
            have o5 : gI (sI (sI m4 312 (upd (gI m4 312) W.length (nI 6))) 274 (upd (gI (sI m4 312 (upd (gI m4 312) W.length (nI 6))) 274) 54 (nI (W.length + 1)))) 274 12 = nI (d + 1) := by rw [gI_s, upd_ne (by decide), gI_n (by decide)]; exact o4
            generalize sI (sI m4 312 (upd (gI m4 312) W.length (nI 6))) 274 (upd (gI (sI m4 312 (upd (gI m4 312) W.length (nI 6))) 274) 54 (nI (W.length + 1))) = m5 at h5 o5 ⊢
            have hx := h5.x
            refine go_goto (tgt := 23) dX12_expression_81 (by decide) ?_
            rw [if_pos (by omega), show gTk (kG B n z) 32 (2, s1.2) = (2, s1.2) from if_pos (Nat.succ_ne_zero 1)] at hS
            rw [show gGo (2, s1.2) = (2, s1.2) from if_pos (Nat.succ_ne_zero 1)] at h5
            exact ex_x23 h5 (Nat.succ_ne_zero 1) (gS_e hS (Nat.succ_ne_zero 1)) (by show _ + (W.length + 1) ≤ 410; omega)
        · rw [if_neg hk] at hS
          refine go_aload_n (q := 0) (i := 0) rfl rfl dX12_expression_23 ?_
          refine go_bipush (v := nI 6) (by decide) dX12_expression_24 ?_
          refine go_callV okmX12_is lmX12_248 ⟨nle rfl, nle rfl⟩ hx.o ⟨by decide, rfl⟩ (ex_is h.x h.t h.g (k := 32) (by decide)) npmX12_is rfl (nle rfl) ⟨nle rfl, nle rfl⟩ dX12_expression_26 ?_
          rintro _ mz ⟨rfl, hz⟩
          subst mz
          rw [if_neg (fun q => by omega)]
          refine go_c1 ?_
          refine gz_eq (by omega) (tgt := 84) dX12_expression_29 (by decide) (fun h29 => ?_) (fun h29 => by exfalso; omega)
          refine go_aload_n (q := 0) (i := 0) rfl rfl dX12_expression_84 ?_
          refine go_callV okmX12_unit lmX12_350 ⟨nle rfl, nle rfl⟩ hx.o ⟨by decide, rfl⟩ (ex_unit h (by omega)) npmX12_unit rfl (nle rfl) ⟨nle rfl, nle rfl⟩ dX12_expression_85 ?_
          rintro _ m2 ⟨rfl, D2, h2, o2, b2, -, u2⟩
          have hx := h2.x
          have hs29 := h2.g.2.2.2.1
          have u2 := u2 h0
          refine go_c0 ?_
          refine go_aload_n (q := 0) (i := 0) rfl rfl dX12_expression_88 ?_
          refine go_getI lf12_230 rfl hx.o dX12_expression_89 ?_
          rw [h2.fa]
          refine gz_le (by omega) (tgt := 96) dX12_expression_92 (by decide) (fun h92 => ?_) (fun h92 => ?_)
          · skip
            have hf : (gTk (kG B n z) (if isU (kG B n z s1.2) then kG B n z s1.2 else 24) s1).1 = 0 := by omega
            obtain ⟨-, g2, g3, g4⟩ := gTk_z hf
            have hu : isU (kG B n z s1.2) := by
              by_cases w : isU (kG B n z s1.2)
              · exact w
              · rw [if_neg w] at g2
                exact Or.inl g2
            rw [g4] at hS h2
            have u3 := u2 hu
            have hI2 := hI.unit hd6 hu (hV s1.2)
            obtain ⟨W3, D3, e3⟩ : ∃ W3 D3, eTok (kG B n z s1.2) (vG B n z s1.2) (W, D) = (W3, D3) := ⟨_, _, rfl⟩
            rw [eTok_ap e3] at u3
            cases u3
            rw [e3] at hI2
            exact ih.2 d m2 (0, s1.2 + 1) W D3 h2 rfl (o2.trans hd) hd6 hI2 (by show (C ++ D3).length + W.length ≤ s1.2 + 1; omega) (by show 401 ≤ f + (s1.2 + 1); omega) hS (nx d false (W, D3) hS g3 hd6 hI2 e3.symm)
          · skip
            refine go_vret rfl ⟨Nat.zero_le _, Nat.zero_le _⟩ dX12_expression_95 ?_
            have hf : (gTk (kG B n z) (if isU (kG B n z s1.2) then kG B n z s1.2 else 24) s1).1 ≠ 0 := by omega
            have hG := gS_e hS hf
            refine ⟨rfl, W, D2, by rw [hG]; exact h2, by omega, fun q hq => ?_⟩
            rw [hG] at hq
            rw [hq] at hf
            exact absurd rfl hf
      · skip
        intro d m1 s1 W D h h0 hd hd6 hI hB hF hS hR
        have hx := h.x
        have hz := h.t.2.1
        have hz2 := h.g.2.2.2.2.1
        have hs9 := h.g.2.2.2.1
        have hk35 : kG B n z s1.2 ≤ 35 := kG_le
        have hl20 : W.length ≤ 20 := hI.len hd6
        have hwo := hI.wo
        have hps := pr_z h0
        have hlen : (C ++ D).length = C.length + D.length := List.length_append
        rw [gSum, if_neg (fun w => w h0)] at hS
        have nx : ∀ (d' : Nat) (due' : Bool) (st : List Nat × Cs), gSum (kG B n z) f d' due' (0, s1.2 + 1) = gS (kG B n z) s → s1.2 < 400 → d' ≤ 6 → SI d' due' st → st = eTok (kG B n z s1.2) (vG B n z s1.2) (W, D) → ∀ q, gS (kG B n z) s = (0, q) → eR (kG B n z) (vG B n z) (q - (s1.2 + 1)) (s1.2 + 1) st = eR (kG B n z) (vG B n z) (q - s.2) s.2 ([], []) := by
          intro d' due' st g1 g2 g3 g4 g5 q hq
          have := (su_i (V := vG B n z) hV f d' due' (s1.2 + 1) q st (g1.trans hq) (by omega) (by omega) g3 g4).1
          have e := hR q hq
          rw [show q - s1.2 = (q - (s1.2 + 1)) + 1 by omega, eR_s] at e
          rw [g5]
          exact e
        rw [if_neg (by decide)] at hS
        rcases (show kG B n z s1.2 = 27 ∨ kG B n z s1.2 = 28 ∨ kG B n z s1.2 = 29 ∨ kG B n z s1.2 = 30 ∨ (kG B n z s1.2 = 33 ∧ 0 < d) ∨ (kG B n z s1.2 = 33 ∧ d = 0) ∨ (¬ kG B n z s1.2 = 33 ∧ ¬ isOp (kG B n z s1.2)) by omega) with hk | hk | hk | hk | ⟨hk, hd0⟩ | ⟨hk, hd0⟩ | ⟨hk, hko⟩
        · skip
          refine go_aload_n (q := 0) (i := 0) rfl rfl dX12_expression_96 ?_
          refine go_bipush (v := nI 7) (by decide) dX12_expression_97 ?_
          refine go_callV okmX12_is lmX12_248 ⟨nle rfl, nle rfl⟩ hx.o ⟨by decide, rfl⟩ (ex_is h.x h.t h.g (k := 33) (by decide)) npmX12_is rfl (nle rfl) ⟨nle rfl, nle rfl⟩ dX12_expression_99 ?_
          rintro _ mz ⟨rfl, hz⟩
          subst mz
          rw [if_neg (fun q => by omega)]
          refine go_c1 ?_
          refine gz_eq (by omega) (tgt := 145) dX12_expression_102 (by decide) (fun h102 => ?_) (fun h102 => by exfalso; omega)
          refine go_aload_n (q := 0) (i := 0) rfl rfl dX12_expression_145 ?_
          refine go_bipush (v := nI 8) (by decide) dX12_expression_146 ?_
          refine go_callV okmX12_is lmX12_248 ⟨nle rfl, nle rfl⟩ hx.o ⟨by decide, rfl⟩ (ex_is h.x h.t h.g (k := 27) (by decide)) npmX12_is rfl (nle rfl) ⟨nle rfl, nle rfl⟩ dX12_expression_148 ?_
          rintro _ mz ⟨rfl, hz⟩
          subst mz
          rw [if_pos ⟨h0, by omega⟩]
          refine go_c1 ?_
          refine gz_ne (by omega) (tgt := 181) dX12_expression_151 (by decide) (fun h151 => ?_) (fun h151 => by exfalso; omega)
          refine go_iconst (v := nI 1) (by decide) dX12_expression_181 ?_
          refine go_goto (tgt := 186) dX12_expression_182 (by decide) ?_
          refine go_istore_n (q := 2) (i := 2) rfl dX12_expression_186 (nle rfl) (nle rfl) ?_
          refine go_iload_n (q := 2) (i := 2) rfl rfl dX12_expression_187 ?_
          refine gz_ne (by omega) (tgt := 210) dX12_expression_188 (by decide) (fun h188 => ?_) (fun h188 => by exfalso; omega)
          refine go_aload_n (q := 0) (i := 0) rfl rfl dX12_expression_210 ?_
          refine go_aload_n (q := 0) (i := 0) rfl rfl dX12_expression_211 ?_
          refine go_bipush (v := nI 10) (by decide) dX12_expression_212 ?_
          refine go_callV okmX12_is lmX12_248 ⟨nle rfl, nle rfl⟩ hx.o ⟨by decide, rfl⟩ (ex_is h.x h.t h.g (k := 29) (by decide)) npmX12_is rfl (nle rfl) ⟨nle rfl, nle rfl⟩ dX12_expression_214 ?_
          rintro _ mz ⟨rfl, hz⟩
          subst mz
          rw [if_neg (fun q => by omega)]
          refine go_c1 ?_
          refine gz_ne (by omega) (tgt := 229) dX12_expression_217 (by decide) (fun h217 => by exfalso; omega) (fun h217 => ?_)
          refine go_aload_n (q := 0) (i := 0) rfl rfl dX12_expression_220 ?_
          refine go_bipush (v := nI 15) (by decide) dX12_expression_221 ?_
          refine go_callV okmX12_is lmX12_248 ⟨nle rfl, nle rfl⟩ hx.o ⟨by decide, rfl⟩ (ex_is h.x h.t h.g (k := 30) (by decide)) npmX12_is rfl (nle rfl) ⟨nle rfl, nle rfl⟩ dX12_expression_223 ?_
          rintro _ mz ⟨rfl, hz⟩
          subst mz
          rw [if_neg (fun q => by omega)]
          refine go_c1 ?_
          refine gz_eq (by omega) (tgt := 233) dX12_expression_226 (by decide) (fun h226 => ?_) (fun h226 => by exfalso; omega)
          refine go_iconst (v := nI 0) (by decide) dX12_expression_233 ?_
          refine go_callV okmX12_comesOut lmX12_353 ⟨nle rfl, nle rfl⟩ hx.o ⟨by decide, rfl⟩ (ex_out0 h.x h.r h.c (by omega) hwo (by omega)) npmX12_comesOut rfl (nle rfl) ⟨nle rfl, nle rfl⟩ dX12_expression_234 ?_
          rintro _ m2 ⟨rfl, r2, c2⟩
          have hle := eOut_le (r := 1) W (C ++ D)
          have eA := eOut_app (r := 1) C W D
          rw [eA] at hle r2
          have hle1 : (eOut 1 W D).1.length + (C ++ (eOut 1 W D).2).length = W.length + (C ++ D).length := hle.2.1
          have hle0 : (eOut 1 W D).1.length ≤ W.length := hle.1
          have h2 := h.fe r2 c2
          have hx := h2.x
          have o2 : gI m2 274 12 = nI d := (c2.2.1 12 (by decide) (by decide)).trans hd
          generalize hWe : eOut 1 W D = WD at *
          obtain ⟨W2, D2⟩ := WD
          have h2 : XB c0 B n z m0 m2 s1 W2 (C ++ D2) := h2
          have hle1 : W2.length + (C ++ D2).length = W.length + (C ++ D).length := hle1
          have hle0 : W2.length ≤ W.length := hle0
          refine go_c0 ?_
          refine go_aload_n (q := 0) (i := 0) rfl rfl dX12_expression_237 ?_
          refine go_getR lf12_131 rfl hx.o hx.r53 dX12_expression_238 ?_
          refine go_aload_n (q := 0) (i := 0) rfl rfl dX12_expression_241 ?_
          refine go_getI lf12_344 rfl hx.o dX12_expression_242 ?_
          rw [show gI m2 274 54 = nI W2.length from h2.w]
          refine go_aload_n (q := 0) (i := 0) rfl rfl dX12_expression_245 ?_
          refine go_getR lf12_20 rfl hx.o hx.r5 dX12_expression_246 ?_
          refine go_aload_n (q := 0) (i := 0) rfl rfl dX12_expression_249 ?_
          refine go_getI lf12_233 rfl hx.o dX12_expression_250 ?_
          rw [h2.g.2.1 h0]
          refine go_iald (j := s1.2) hx.i5 (by omega) (by first | decide | omega) rfl dX12_expression_253 ?_
          rw [(h2.t.k hz2).1, hk, show rk 27 = 8 by decide]
          refine go_iast (j := W2.length) hx.i53 (by omega) (by first | decide | omega) rfl dX12_expression_254 ?_
          refine go_aload_n (q := 0) (i := 0) rfl rfl dX12_expression_255 ?_
          refine go_dup rfl dX12_expression_256 ?_
          refine go_getI lf12_344 rfl hx.o dX12_expression_257 ?_
          rw [gI_n (by decide), show gI m2 274 54 = nI W2.length from h2.w]
          refine go_iconst (v := nI 1) (by decide) dX12_expression_260 ?_
          refine gn_add dX12_expression_261 ?_
          refine go_putI lf12_344 rfl (Or.inl rfl) hx.o dX12_expression_262 ?_
          have h3 : XB c0 B n z m0 (sI (sI m2 312 (upd (gI m2 312) W2.length (nI 8))) 274 (upd (gI (sI m2 312 (upd (gI m2 312) W2.length (nI 8))) 274) 54 (nI (W2.length + 1)))) s1 (27 :: W2) (C ++ D2) := h2.push (k := 27) (u := nI 8) rfl
          have o3 : gI (sI (sI m2 312 (upd (gI m2 312) W2.length (nI 8))) 274 (upd (gI (sI m2 312 (upd (gI m2 312) W2.length (nI 8))) 274) 54 (nI (W2.length + 1)))) 274 12 = nI d := by rw [gI_s, upd_ne (by decide), gI_n (by decide)]; exact o2
          generalize sI (sI m2 312 (upd (gI m2 312) W2.length (nI 8))) 274 (upd (gI (sI m2 312 (upd (gI m2 312) W2.length (nI 8))) 274) 54 (nI (W2.length + 1))) = m3 at h3 o3 ⊢
          have hx := h3.x
          refine go_aload_n (q := 0) (i := 0) rfl rfl dX12_expression_265 ?_
          refine go_callV okmX12_goesOn lmX12_251 ⟨nle rfl, nle rfl⟩ hx.o ⟨by decide, rfl⟩ (ex_goesOn h3.x h3.t h3.g (h3.nx h0 (by omega))) npmX12_goesOn rfl (nle rfl) ⟨nle rfl, nle rfl⟩ dX12_expression_266 ?_
          rintro _ m5 ⟨rfl, f3, f4⟩
          have h5 := h3.fq f3 f4
          have hx := h5.x
          have hs59 := h5.g.2.2.2.1
          have o5 : gI m5 274 12 = nI d := (f4.2 12 (by decide) (by decide) (by decide)).trans o3
          refine go_c0 ?_
          refine go_goto (tgt := 12) dX12_expression_269 (by decide) ?_
          refine go_iload_n (q := 2) (i := 2) rfl rfl dX12_expression_12 ?_
          refine gz_eq (by omega) (tgt := 272) dX12_expression_13 (by decide) (fun h13 => by exfalso; omega) (fun h13 => ?_)
          refine go_aload_n (q := 0) (i := 0) rfl rfl dX12_expression_16 ?_
          refine go_getI lf12_230 rfl hx.o dX12_expression_17 ?_
          rw [h5.fa]
          refine gz_ne (by omega) (tgt := 272) dX12_expression_20 (by decide) (fun h20 => ?_) (fun h20 => ?_)
          · skip
            refine go_vret rfl ⟨Nat.zero_le _, Nat.zero_le _⟩ dX12_expression_272 ?_
            rw [if_pos (show isOp (kG B n z s1.2) by omega), hps] at hS
            have eg : gGo s1 = gTk (kG B n z) (kG B n z s1.2) s1 := gGo_t (fun _ => rfl)
            rw [eg, hps] at h5
            have hf : (gTk (kG B n z) (kG B n z s1.2) (0, s1.2)).1 ≠ 0 := by rw [eg, hps] at h20; omega
            have hG := gS_e hS hf
            refine ⟨rfl, _, _, by rw [hG]; exact h5, by show _ + (W2.length + 1) ≤ 410; omega, fun q hq => ?_⟩
            rw [hG] at hq
            rw [hq] at hf
            exact absurd rfl hf
          · skip
            rw [if_pos (show isOp (kG B n z s1.2) by omega), hps] at hS
            have eg : gGo s1 = gTk (kG B n z) (kG B n z s1.2) s1 := gGo_t (fun _ => rfl)
            rw [eg, hps] at h5
            have hf : (gTk (kG B n z) (kG B n z s1.2) (0, s1.2)).1 = 0 := by rw [eg, hps] at h20; omega
            have g3 := (gTk_z hf).2.2.1
            have g4 := (gTk_z hf).2.2.2
            rw [g4] at hS h5
            have hI2 := hI.op (k := kG B n z s1.2) (v := vG B n z s1.2) (by omega)
            have eT : eTok (kG B n z s1.2) (vG B n z s1.2) (W, D) = (27 :: W2, D2) := by rw [eTok_o (rnk_p (by omega)), hk, show rnk 27 = 1 by decide, hWe]
            rw [eT] at hI2
            exact ih.1 d m5 (0, s1.2 + 1) (27 :: W2) D2 h5 rfl o5 hd6 hI2 (by show (C ++ D2).length + (W2.length + 1) ≤ s1.2 + 1; omega) (by show 401 ≤ f + (s1.2 + 1); omega) hS (nx d true _ hS g3 hd6 hI2 eT.symm)
        · skip
          refine go_aload_n (q := 0) (i := 0) rfl rfl dX12_expression_96 ?_
          refine go_bipush (v := nI 7) (by decide) dX12_expression_97 ?_
          refine go_callV okmX12_is lmX12_248 ⟨nle rfl, nle rfl⟩ hx.o ⟨by decide, rfl⟩ (ex_is h.x h.t h.g (k := 33) (by decide)) npmX12_is rfl (nle rfl) ⟨nle rfl, nle rfl⟩ dX12_expression_99 ?_
          rintro _ mz ⟨rfl, hz⟩
          subst mz
          rw [if_neg (fun q => by omega)]
          refine go_c1 ?_
          refine gz_eq (by omega) (tgt := 145) dX12_expression_102 (by decide) (fun h102 => ?_) (fun h102 => by exfalso; omega)
          refine go_aload_n (q := 0) (i := 0) rfl rfl dX12_expression_145 ?_
          refine go_bipush (v := nI 8) (by decide) dX12_expression_146 ?_
          refine go_callV okmX12_is lmX12_248 ⟨nle rfl, nle rfl⟩ hx.o ⟨by decide, rfl⟩ (ex_is h.x h.t h.g (k := 27) (by decide)) npmX12_is rfl (nle rfl) ⟨nle rfl, nle rfl⟩ dX12_expression_148 ?_
          rintro _ mz ⟨rfl, hz⟩
          subst mz
          rw [if_neg (fun q => by omega)]
          refine go_c1 ?_
          refine gz_ne (by omega) (tgt := 181) dX12_expression_151 (by decide) (fun h151 => by exfalso; omega) (fun h151 => ?_)
          refine go_aload_n (q := 0) (i := 0) rfl rfl dX12_expression_154 ?_
          refine go_bipush (v := nI 9) (by decide) dX12_expression_155 ?_
          refine go_callV okmX12_is lmX12_248 ⟨nle rfl, nle rfl⟩ hx.o ⟨by decide, rfl⟩ (ex_is h.x h.t h.g (k := 28) (by decide)) npmX12_is rfl (nle rfl) ⟨nle rfl, nle rfl⟩ dX12_expression_157 ?_
          rintro _ mz ⟨rfl, hz⟩
          subst mz
          rw [if_pos ⟨h0, by omega⟩]
          refine go_c1 ?_
          refine gz_ne (by omega) (tgt := 181) dX12_expression_160 (by decide) (fun h160 => ?_) (fun h160 => by exfalso; omega)
          refine go_iconst (v := nI 1) (by decide) dX12_expression_181 ?_
          refine go_goto (tgt := 186) dX12_expression_182 (by decide) ?_
          refine go_istore_n (q := 2) (i := 2) rfl dX12_expression_186 (nle rfl) (nle rfl) ?_
          refine go_iload_n (q := 2) (i := 2) rfl rfl dX12_expression_187 ?_
          refine gz_ne (by omega) (tgt := 210) dX12_expression_188 (by decide) (fun h188 => ?_) (fun h188 => by exfalso; omega)
          refine go_aload_n (q := 0) (i := 0) rfl rfl dX12_expression_210 ?_
          refine go_aload_n (q := 0) (i := 0) rfl rfl dX12_expression_211 ?_
          refine go_bipush (v := nI 10) (by decide) dX12_expression_212 ?_
          refine go_callV okmX12_is lmX12_248 ⟨nle rfl, nle rfl⟩ hx.o ⟨by decide, rfl⟩ (ex_is h.x h.t h.g (k := 29) (by decide)) npmX12_is rfl (nle rfl) ⟨nle rfl, nle rfl⟩ dX12_expression_214 ?_
          rintro _ mz ⟨rfl, hz⟩
          subst mz
          rw [if_neg (fun q => by omega)]
          refine go_c1 ?_
          refine gz_ne (by omega) (tgt := 229) dX12_expression_217 (by decide) (fun h217 => by exfalso; omega) (fun h217 => ?_)
          refine go_aload_n (q := 0) (i := 0) rfl rfl dX12_expression_220 ?_
          refine go_bipush (v := nI 15) (by decide) dX12_expression_221 ?_
          refine go_callV okmX12_is lmX12_248 ⟨nle rfl, nle rfl⟩ hx.o ⟨by decide, rfl⟩ (ex_is h.x h.t h.g (k := 30) (by decide)) npmX12_is rfl (nle rfl) ⟨nle rfl, nle rfl⟩ dX12_expression_223 ?_
          rintro _ mz ⟨rfl, hz⟩
          subst mz
          rw [if_neg (fun q => by omega)]
          refine go_c1 ?_
          refine gz_eq (by omega) (tgt := 233) dX12_expression_226 (by decide) (fun h226 => ?_) (fun h226 => by exfalso; omega)
          refine go_iconst (v := nI 0) (by decide) dX12_expression_233 ?_
          refine go_callV okmX12_comesOut lmX12_353 ⟨nle rfl, nle rfl⟩ hx.o ⟨by decide, rfl⟩ (ex_out0 h.x h.r h.c (by omega) hwo (by omega)) npmX12_comesOut rfl (nle rfl) ⟨nle rfl, nle rfl⟩ dX12_expression_234 ?_
          rintro _ m2 ⟨rfl, r2, c2⟩
          have hle := eOut_le (r := 1) W (C ++ D)
          have eA := eOut_app (r := 1) C W D
          rw [eA] at hle r2
          have hle1 : (eOut 1 W D).1.length + (C ++ (eOut 1 W D).2).length = W.length + (C ++ D).length := hle.2.1
          have hle0 : (eOut 1 W D).1.length ≤ W.length := hle.1
          have h2 := h.fe r2 c2
          have hx := h2.x
          have o2 : gI m2 274 12 = nI d := (c2.2.1 12 (by decide) (by decide)).trans hd
          generalize hWe : eOut 1 W D = WD at *
          obtain ⟨W2, D2⟩ := WD
          have h2 : XB c0 B n z m0 m2 s1 W2 (C ++ D2) := h2
          have hle1 : W2.length + (C ++ D2).length = W.length + (C ++ D).length := hle1
          have hle0 : W2.length ≤ W.length := hle0
          refine go_c0 ?_
          refine go_aload_n (q := 0) (i := 0) rfl rfl dX12_expression_237 ?_
          refine go_getR lf12_131 rfl hx.o hx.r53 dX12_expression_238 ?_
          refine go_aload_n (q := 0) (i := 0) rfl rfl dX12_expression_241 ?_
          refine go_getI lf12_344 rfl hx.o dX12_expression_242 ?_
          rw [show gI m2 274 54 = nI W2.length from h2.w]
          refine go_aload_n (q := 0) (i := 0) rfl rfl dX12_expression_245 ?_
          refine go_getR lf12_20 rfl hx.o hx.r5 dX12_expression_246 ?_
          refine go_aload_n (q := 0) (i := 0) rfl rfl dX12_expression_249 ?_
          refine go_getI lf12_233 rfl hx.o dX12_expression_250 ?_
          rw [h2.g.2.1 h0]
          refine go_iald (j := s1.2) hx.i5 (by omega) (by first | decide | omega) rfl dX12_expression_253 ?_
          rw [(h2.t.k hz2).1, hk, show rk 28 = 9 by decide]
          refine go_iast (j := W2.length) hx.i53 (by omega) (by first | decide | omega) rfl dX12_expression_254 ?_
          refine go_aload_n (q := 0) (i := 0) rfl rfl dX12_expression_255 ?_
          refine go_dup rfl dX12_expression_256 ?_
          refine go_getI lf12_344 rfl hx.o dX12_expression_257 ?_
          rw [gI_n (by decide), show gI m2 274 54 = nI W2.length from h2.w]
          refine go_iconst (v := nI 1) (by decide) dX12_expression_260 ?_
          refine gn_add dX12_expression_261 ?_
          refine go_putI lf12_344 rfl (Or.inl rfl) hx.o dX12_expression_262 ?_
          have h3 : XB c0 B n z m0 (sI (sI m2 312 (upd (gI m2 312) W2.length (nI 9))) 274 (upd (gI (sI m2 312 (upd (gI m2 312) W2.length (nI 9))) 274) 54 (nI (W2.length + 1)))) s1 (28 :: W2) (C ++ D2) := h2.push (k := 28) (u := nI 9) rfl
          have o3 : gI (sI (sI m2 312 (upd (gI m2 312) W2.length (nI 9))) 274 (upd (gI (sI m2 312 (upd (gI m2 312) W2.length (nI 9))) 274) 54 (nI (W2.length + 1)))) 274 12 = nI d := by rw [gI_s, upd_ne (by decide), gI_n (by decide)]; exact o2
          generalize sI (sI m2 312 (upd (gI m2 312) W2.length (nI 9))) 274 (upd (gI (sI m2 312 (upd (gI m2 312) W2.length (nI 9))) 274) 54 (nI (W2.length + 1))) = m3 at h3 o3 ⊢
          have hx := h3.x
          refine go_aload_n (q := 0) (i := 0) rfl rfl dX12_expression_265 ?_
          refine go_callV okmX12_goesOn lmX12_251 ⟨nle rfl, nle rfl⟩ hx.o ⟨by decide, rfl⟩ (ex_goesOn h3.x h3.t h3.g (h3.nx h0 (by omega))) npmX12_goesOn rfl (nle rfl) ⟨nle rfl, nle rfl⟩ dX12_expression_266 ?_
          rintro _ m5 ⟨rfl, f3, f4⟩
          have h5 := h3.fq f3 f4
          have hx := h5.x
          have hs59 := h5.g.2.2.2.1
          have o5 : gI m5 274 12 = nI d := (f4.2 12 (by decide) (by decide) (by decide)).trans o3
          refine go_c0 ?_
          refine go_goto (tgt := 12) dX12_expression_269 (by decide) ?_
          refine go_iload_n (q := 2) (i := 2) rfl rfl dX12_expression_12 ?_
          refine gz_eq (by omega) (tgt := 272) dX12_expression_13 (by decide) (fun h13 => by exfalso; omega) (fun h13 => ?_)
          refine go_aload_n (q := 0) (i := 0) rfl rfl dX12_expression_16 ?_
          refine go_getI lf12_230 rfl hx.o dX12_expression_17 ?_
          rw [h5.fa]
          refine gz_ne (by omega) (tgt := 272) dX12_expression_20 (by decide) (fun h20 => ?_) (fun h20 => ?_)
          · skip
            refine go_vret rfl ⟨Nat.zero_le _, Nat.zero_le _⟩ dX12_expression_272 ?_
            rw [if_pos (show isOp (kG B n z s1.2) by omega), hps] at hS
            have eg : gGo s1 = gTk (kG B n z) (kG B n z s1.2) s1 := gGo_t (fun _ => rfl)
            rw [eg, hps] at h5
            have hf : (gTk (kG B n z) (kG B n z s1.2) (0, s1.2)).1 ≠ 0 := by rw [eg, hps] at h20; omega
            have hG := gS_e hS hf
            refine ⟨rfl, _, _, by rw [hG]; exact h5, by show _ + (W2.length + 1) ≤ 410; omega, fun q hq => ?_⟩
            rw [hG] at hq
            rw [hq] at hf
            exact absurd rfl hf
          · skip
            rw [if_pos (show isOp (kG B n z s1.2) by omega), hps] at hS
            have eg : gGo s1 = gTk (kG B n z) (kG B n z s1.2) s1 := gGo_t (fun _ => rfl)
            rw [eg, hps] at h5
            have hf : (gTk (kG B n z) (kG B n z s1.2) (0, s1.2)).1 = 0 := by rw [eg, hps] at h20; omega
            have g3 := (gTk_z hf).2.2.1
            have g4 := (gTk_z hf).2.2.2
            rw [g4] at hS h5
            have hI2 := hI.op (k := kG B n z s1.2) (v := vG B n z s1.2) (by omega)
            have eT : eTok (kG B n z s1.2) (vG B n z s1.2) (W, D) = (28 :: W2, D2) := by rw [eTok_o (rnk_p (by omega)), hk, show rnk 28 = 1 by decide, hWe]
            rw [eT] at hI2
            exact ih.1 d m5 (0, s1.2 + 1) (28 :: W2) D2 h5 rfl o5 hd6 hI2 (by show (C ++ D2).length + (W2.length + 1) ≤ s1.2 + 1; omega) (by show 401 ≤ f + (s1.2 + 1); omega) hS (nx d true _ hS g3 hd6 hI2 eT.symm)
        · skip
          refine go_aload_n (q := 0) (i := 0) rfl rfl dX12_expression_96 ?_
          refine go_bipush (v := nI 7) (by decide) dX12_expression_97 ?_
          refine go_callV okmX12_is lmX12_248 ⟨nle rfl, nle rfl⟩ hx.o ⟨by decide, rfl⟩ (ex_is h.x h.t h.g (k := 33) (by decide)) npmX12_is rfl (nle rfl) ⟨nle rfl, nle rfl⟩ dX12_expression_99 ?_
          rintro _ mz ⟨rfl, hz⟩
          subst mz
          rw [if_neg (fun q => by omega)]
          refine go_c1 ?_
          refine gz_eq (by omega) (tgt := 145) dX12_expression_102 (by decide) (fun h102 => ?_) (fun h102 => by exfalso; omega)
          refine go_aload_n (q := 0) (i := 0) rfl rfl dX12_expression_145 ?_
          refine go_bipush (v := nI 8) (by decide) dX12_expression_146 ?_
          refine go_callV okmX12_is lmX12_248 ⟨nle rfl, nle rfl⟩ hx.o ⟨by decide, rfl⟩ (ex_is h.x h.t h.g (k := 27) (by decide)) npmX12_is rfl (nle rfl) ⟨nle rfl, nle rfl⟩ dX12_expression_148 ?_
          rintro _ mz ⟨rfl, hz⟩
          subst mz
          rw [if_neg (fun q => by omega)]
          refine go_c1 ?_
          refine gz_ne (by omega) (tgt := 181) dX12_expression_151 (by decide) (fun h151 => by exfalso; omega) (fun h151 => ?_)
          refine go_aload_n (q := 0) (i := 0) rfl rfl dX12_expression_154 ?_
          refine go_bipush (v := nI 9) (by decide) dX12_expression_155 ?_
          refine go_callV okmX12_is lmX12_248 ⟨nle rfl, nle rfl⟩ hx.o ⟨by decide, rfl⟩ (ex_is h.x h.t h.g (k := 28) (by decide)) npmX12_is rfl (nle rfl) ⟨nle rfl, nle rfl⟩ dX12_expression_157 ?_
          rintro _ mz ⟨rfl, hz⟩
          subst mz
          rw [if_neg (fun q => by omega)]
          refine go_c1 ?_
          refine gz_ne (by omega) (tgt := 181) dX12_expression_160 (by decide) (fun h160 => by exfalso; omega) (fun h160 => ?_)
          refine go_aload_n (q := 0) (i := 0) rfl rfl dX12_expression_163 ?_
          refine go_bipush (v := nI 10) (by decide) dX12_expression_164 ?_
          refine go_callV okmX12_is lmX12_248 ⟨nle rfl, nle rfl⟩ hx.o ⟨by decide, rfl⟩ (ex_is h.x h.t h.g (k := 29) (by decide)) npmX12_is rfl (nle rfl) ⟨nle rfl, nle rfl⟩ dX12_expression_166 ?_
          rintro _ mz ⟨rfl, hz⟩
          subst mz
          rw [if_pos ⟨h0, by omega⟩]
          refine go_c1 ?_
          refine gz_ne (by omega) (tgt := 181) dX12_expression_169 (by decide) (fun h169 => ?_) (fun h169 => by exfalso; omega)
          refine go_iconst (v := nI 1) (by decide) dX12_expression_181 ?_
          refine go_goto (tgt := 186) dX12_expression_182 (by decide) ?_
          refine go_istore_n (q := 2) (i := 2) rfl dX12_expression_186 (nle rfl) (nle rfl) ?_
          refine go_iload_n (q := 2) (i := 2) rfl rfl dX12_expression_187 ?_
          refine gz_ne (by omega) (tgt := 210) dX12_expression_188 (by decide) (fun h188 => ?_) (fun h188 => by exfalso; omega)
          refine go_aload_n (q := 0) (i := 0) rfl rfl dX12_expression_210 ?_
          refine go_aload_n (q := 0) (i := 0) rfl rfl dX12_expression_211 ?_
          refine go_bipush (v := nI 10) (by decide) dX12_expression_212 ?_
          refine go_callV okmX12_is lmX12_248 ⟨nle rfl, nle rfl⟩ hx.o ⟨by decide, rfl⟩ (ex_is h.x h.t h.g (k := 29) (by decide)) npmX12_is rfl (nle rfl) ⟨nle rfl, nle rfl⟩ dX12_expression_214 ?_
          rintro _ mz ⟨rfl, hz⟩
          subst mz
          rw [if_pos ⟨h0, by omega⟩]
          refine go_c1 ?_
          refine gz_ne (by omega) (tgt := 229) dX12_expression_217 (by decide) (fun h217 => ?_) (fun h217 => by exfalso; omega)
          refine go_iconst (v := nI 1) (by decide) dX12_expression_229 ?_
          refine go_goto (tgt := 234) dX12_expression_230 (by decide) ?_
          refine go_callV okmX12_comesOut lmX12_353 ⟨nle rfl, nle rfl⟩ hx.o ⟨by decide, rfl⟩ (ex_out1 h.x h.r h.c (by omega) hwo (by omega)) npmX12_comesOut rfl (nle rfl) ⟨nle rfl, nle rfl⟩ dX12_expression_234 ?_
          rintro _ m2 ⟨rfl, r2, c2⟩
          have hle := eOut_le (r := 2) W (C ++ D)
          have eA := eOut_app (r := 2) C W D
          rw [eA] at hle r2
          have hle1 : (eOut 2 W D).1.length + (C ++ (eOut 2 W D).2).length = W.length + (C ++ D).length := hle.2.1
          have hle0 : (eOut 2 W D).1.length ≤ W.length := hle.1
          have h2 := h.fe r2 c2
          have hx := h2.x
          have o2 : gI m2 274 12 = nI d := (c2.2.1 12 (by decide) (by decide)).trans hd
          generalize hWe : eOut 2 W D = WD at *
          obtain ⟨W2, D2⟩ := WD
          have h2 : XB c0 B n z m0 m2 s1 W2 (C ++ D2) := h2
          have hle1 : W2.length + (C ++ D2).length = W.length + (C ++ D).length := hle1
          have hle0 : W2.length ≤ W.length := hle0
          refine go_c0 ?_
          refine go_aload_n (q := 0) (i := 0) rfl rfl dX12_expression_237 ?_
          refine go_getR lf12_131 rfl hx.o hx.r53 dX12_expression_238 ?_
          refine go_aload_n (q := 0) (i := 0) rfl rfl dX12_expression_241 ?_
          refine go_getI lf12_344 rfl hx.o dX12_expression_242 ?_
          rw [show gI m2 274 54 = nI W2.length from h2.w]
          refine go_aload_n (q := 0) (i := 0) rfl rfl dX12_expression_245 ?_
          refine go_getR lf12_20 rfl hx.o hx.r5 dX12_expression_246 ?_
          refine go_aload_n (q := 0) (i := 0) rfl rfl dX12_expression_249 ?_
          refine go_getI lf12_233 rfl hx.o dX12_expression_250 ?_
          rw [h2.g.2.1 h0]
          refine go_iald (j := s1.2) hx.i5 (by omega) (by first | decide | omega) rfl dX12_expression_253 ?_
          rw [(h2.t.k hz2).1, hk, show rk 29 = 10 by decide]
          refine go_iast (j := W2.length) hx.i53 (by omega) (by first | decide | omega) rfl dX12_expression_254 ?_
          refine go_aload_n (q := 0) (i := 0) rfl rfl dX12_expression_255 ?_
          refine go_dup rfl dX12_expression_256 ?_
          refine go_getI lf12_344 rfl hx.o dX12_expression_257 ?_
          rw [gI_n (by decide), show gI m2 274 54 = nI W2.length from h2.w]
          refine go_iconst (v := nI 1) (by decide) dX12_expression_260 ?_
          refine gn_add dX12_expression_261 ?_
          refine go_putI lf12_344 rfl (Or.inl rfl) hx.o dX12_expression_262 ?_
          have h3 : XB c0 B n z m0 (sI (sI m2 312 (upd (gI m2 312) W2.length (nI 10))) 274 (upd (gI (sI m2 312 (upd (gI m2 312) W2.length (nI 10))) 274) 54 (nI (W2.length + 1)))) s1 (29 :: W2) (C ++ D2) := h2.push (k := 29) (u := nI 10) rfl
          have o3 : gI (sI (sI m2 312 (upd (gI m2 312) W2.length (nI 10))) 274 (upd (gI (sI m2 312 (upd (gI m2 312) W2.length (nI 10))) 274) 54 (nI (W2.length + 1)))) 274 12 = nI d := by rw [gI_s, upd_ne (by decide), gI_n (by decide)]; exact o2
          generalize sI (sI m2 312 (upd (gI m2 312) W2.length (nI 10))) 274 (upd (gI (sI m2 312 (upd (gI m2 312) W2.length (nI 10))) 274) 54 (nI (W2.length + 1))) = m3 at h3 o3 ⊢
          have hx := h3.x
          refine go_aload_n (q := 0) (i := 0) rfl rfl dX12_expression_265 ?_
          refine go_callV okmX12_goesOn lmX12_251 ⟨nle rfl, nle rfl⟩ hx.o ⟨by decide, rfl⟩ (ex_goesOn h3.x h3.t h3.g (h3.nx h0 (by omega))) npmX12_goesOn rfl (nle rfl) ⟨nle rfl, nle rfl⟩ dX12_expression_266 ?_
          rintro _ m5 ⟨rfl, f3, f4⟩
          have h5 := h3.fq f3 f4
          have hx := h5.x
          have hs59 := h5.g.2.2.2.1
          have o5 : gI m5 274 12 = nI d := (f4.2 12 (by decide) (by decide) (by decide)).trans o3
          refine go_c0 ?_
          refine go_goto (tgt := 12) dX12_expression_269 (by decide) ?_
          refine go_iload_n (q := 2) (i := 2) rfl rfl dX12_expression_12 ?_
          refine gz_eq (by omega) (tgt := 272) dX12_expression_13 (by decide) (fun h13 => by exfalso; omega) (fun h13 => ?_)
          refine go_aload_n (q := 0) (i := 0) rfl rfl dX12_expression_16 ?_
          refine go_getI lf12_230 rfl hx.o dX12_expression_17 ?_
          rw [h5.fa]
          refine gz_ne (by omega) (tgt := 272) dX12_expression_20 (by decide) (fun h20 => ?_) (fun h20 => ?_)
          · skip
            refine go_vret rfl ⟨Nat.zero_le _, Nat.zero_le _⟩ dX12_expression_272 ?_
            rw [if_pos (show isOp (kG B n z s1.2) by omega), hps] at hS
            have eg : gGo s1 = gTk (kG B n z) (kG B n z s1.2) s1 := gGo_t (fun _ => rfl)
            rw [eg, hps] at h5
            have hf : (gTk (kG B n z) (kG B n z s1.2) (0, s1.2)).1 ≠ 0 := by rw [eg, hps] at h20; omega
            have hG := gS_e hS hf
            refine ⟨rfl, _, _, by rw [hG]; exact h5, by show _ + (W2.length + 1) ≤ 410; omega, fun q hq => ?_⟩
            rw [hG] at hq
            rw [hq] at hf
            exact absurd rfl hf
          · skip
            rw [if_pos (show isOp (kG B n z s1.2) by omega), hps] at hS
            have eg : gGo s1 = gTk (kG B n z) (kG B n z s1.2) s1 := gGo_t (fun _ => rfl)
            rw [eg, hps] at h5
            have hf : (gTk (kG B n z) (kG B n z s1.2) (0, s1.2)).1 = 0 := by rw [eg, hps] at h20; omega
            have g3 := (gTk_z hf).2.2.1
            have g4 := (gTk_z hf).2.2.2
            rw [g4] at hS h5
            have hI2 := hI.op (k := kG B n z s1.2) (v := vG B n z s1.2) (by omega)
            have eT : eTok (kG B n z s1.2) (vG B n z s1.2) (W, D) = (29 :: W2, D2) := by rw [eTok_o (rnk_p (by omega)), hk, show rnk 29 = 2 by decide, hWe]
            rw [eT] at hI2
            exact ih.1 d m5 (0, s1.2 + 1) (29 :: W2) D2 h5 rfl o5 hd6 hI2 (by show (C ++ D2).length + (W2.length + 1) ≤ s1.2 + 1; omega) (by show 401 ≤ f + (s1.2 + 1); omega) hS (nx d true _ hS g3 hd6 hI2 eT.symm)
        · skip
          refine go_aload_n (q := 0) (i := 0) rfl rfl dX12_expression_96 ?_
          refine go_bipush (v := nI 7) (by decide) dX12_expression_97 ?_
          refine go_callV okmX12_is lmX12_248 ⟨nle rfl, nle rfl⟩ hx.o ⟨by decide, rfl⟩ (ex_is h.x h.t h.g (k := 33) (by decide)) npmX12_is rfl (nle rfl) ⟨nle rfl, nle rfl⟩ dX12_expression_99 ?_
          rintro _ mz ⟨rfl, hz⟩
          subst mz
          rw [if_neg (fun q => by omega)]
          refine go_c1 ?_
          refine gz_eq (by omega) (tgt := 145) dX12_expression_102 (by decide) (fun h102 => ?_) (fun h102 => by exfalso; omega)
          refine go_aload_n (q := 0) (i := 0) rfl rfl dX12_expression_145 ?_
          refine go_bipush (v := nI 8) (by decide) dX12_expression_146 ?_
          refine go_callV okmX12_is lmX12_248 ⟨nle rfl, nle rfl⟩ hx.o ⟨by decide, rfl⟩ (ex_is h.x h.t h.g (k := 27) (by decide)) npmX12_is rfl (nle rfl) ⟨nle rfl, nle rfl⟩ dX12_expression_148 ?_
          rintro _ mz ⟨rfl, hz⟩
          subst mz
          rw [if_neg (fun q => by omega)]
          refine go_c1 ?_
          refine gz_ne (by omega) (tgt := 181) dX12_expression_151 (by decide) (fun h151 => by exfalso; omega) (fun h151 => ?_)
          refine go_aload_n (q := 0) (i := 0) rfl rfl dX12_expression_154 ?_
          refine go_bipush (v := nI 9) (by decide) dX12_expression_155 ?_
          refine go_callV okmX12_is lmX12_248 ⟨nle rfl, nle rfl⟩ hx.o ⟨by decide, rfl⟩ (ex_is h.x h.t h.g (k := 28) (by decide)) npmX12_is rfl (nle rfl) ⟨nle rfl, nle rfl⟩ dX12_expression_157 ?_
          rintro _ mz ⟨rfl, hz⟩
          subst mz
          rw [if_neg (fun q => by omega)]
          refine go_c1 ?_
          refine gz_ne (by omega) (tgt := 181) dX12_expression_160 (by decide) (fun h160 => by exfalso; omega) (fun h160 => ?_)
          refine go_aload_n (q := 0) (i := 0) rfl rfl dX12_expression_163 ?_
          refine go_bipush (v := nI 10) (by decide) dX12_expression_164 ?_
          refine go_callV okmX12_is lmX12_248 ⟨nle rfl, nle rfl⟩ hx.o ⟨by decide, rfl⟩ (ex_is h.x h.t h.g (k := 29) (by decide)) npmX12_is rfl (nle rfl) ⟨nle rfl, nle rfl⟩ dX12_expression_166 ?_
          rintro _ mz ⟨rfl, hz⟩
          subst mz
          rw [if_neg (fun q => by omega)]
          refine go_c1 ?_
          refine gz_ne (by omega) (tgt := 181) dX12_expression_169 (by decide) (fun h169 => by exfalso; omega) (fun h169 => ?_)
          refine go_aload_n (q := 0) (i := 0) rfl rfl dX12_expression_172 ?_
          refine go_bipush (v := nI 15) (by decide) dX12_expression_173 ?_
          refine go_callV okmX12_is lmX12_248 ⟨nle rfl, nle rfl⟩ hx.o ⟨by decide, rfl⟩ (ex_is h.x h.t h.g (k := 30) (by decide)) npmX12_is rfl (nle rfl) ⟨nle rfl, nle rfl⟩ dX12_expression_175 ?_
          rintro _ mz ⟨rfl, hz⟩
          subst mz
          rw [if_pos ⟨h0, by omega⟩]
          refine go_c1 ?_
          refine gz_eq (by omega) (tgt := 185) dX12_expression_178 (by decide) (fun h178 => by exfalso; omega) (fun h178 => ?_)
          refine go_iconst (v := nI 1) (by decide) dX12_expression_181 ?_
          refine go_goto (tgt := 186) dX12_expression_182 (by decide) ?_
          refine go_istore_n (q := 2) (i := 2) rfl dX12_expression_186 (nle rfl) (nle rfl) ?_
          refine go_iload_n (q := 2) (i := 2) rfl rfl dX12_expression_187 ?_
          refine gz_ne (by omega) (tgt := 210) dX12_expression_188 (by decide) (fun h188 => ?_) (fun h188 => by exfalso; omega)
          refine go_aload_n (q := 0) (i := 0) rfl rfl dX12_expression_210 ?_
          refine go_aload_n (q := 0) (i := 0) rfl rfl dX12_expression_211 ?_
          refine go_bipush (v := nI 10) (by decide) dX12_expression_212 ?_
          refine go_callV okmX12_is lmX12_248 ⟨nle rfl, nle rfl⟩ hx.o ⟨by decide, rfl⟩ (ex_is h.x h.t h.g (k := 29) (by decide)) npmX12_is rfl (nle rfl) ⟨nle rfl, nle rfl⟩ dX12_expression_214 ?_
          rintro _ mz ⟨rfl, hz⟩
          subst mz
          rw [if_neg (fun q => by omega)]
          refine go_c1 ?_
          refine gz_ne (by omega) (tgt := 229) dX12_expression_217 (by decide) (fun h217 => by exfalso; omega) (fun h217 => ?_)
          refine go_aload_n (q := 0) (i := 0) rfl rfl dX12_expression_220 ?_
          refine go_bipush (v := nI 15) (by decide) dX12_expression_221 ?_
          refine go_callV okmX12_is lmX12_248 ⟨nle rfl, nle rfl⟩ hx.o ⟨by decide, rfl⟩ (ex_is h.x h.t h.g (k := 30) (by decide)) npmX12_is rfl (nle rfl) ⟨nle rfl, nle rfl⟩ dX12_expression_223 ?_
          rintro _ mz ⟨rfl, hz⟩
          subst mz
          rw [if_pos ⟨h0, by omega⟩]
          refine go_c1 ?_
          refine gz_eq (by omega) (tgt := 233) dX12_expression_226 (by decide) (fun h226 => by exfalso; omega) (fun h226 => ?_)
          refine go_iconst (v := nI 1) (by decide) dX12_expression_229 ?_
          refine go_goto (tgt := 234) dX12_expression_230 (by decide) ?_
          refine go_callV okmX12_comesOut lmX12_353 ⟨nle rfl, nle rfl⟩ hx.o ⟨by decide, rfl⟩ (ex_out1 h.x h.r h.c (by omega) hwo (by omega)) npmX12_comesOut rfl (nle rfl) ⟨nle rfl, nle rfl⟩ dX12_expression_234 ?_
          rintro _ m2 ⟨rfl, r2, c2⟩
          have hle := eOut_le (r := 2) W (C ++ D)
          have eA := eOut_app (r := 2) C W D
          rw [eA] at hle r2
          have hle1 : (eOut 2 W D).1.length + (C ++ (eOut 2 W D).2).length = W.length + (C ++ D).length := hle.2.1
          have hle0 : (eOut 2 W D).1.length ≤ W.length := hle.1
          have h2 := h.fe r2 c2
          have hx := h2.x
          have o2 : gI m2 274 12 = nI d := (c2.2.1 12 (by decide) (by decide)).trans hd
          generalize hWe : eOut 2 W D = WD at *
          obtain ⟨W2, D2⟩ := WD
          have h2 : XB c0 B n z m0 m2 s1 W2 (C ++ D2) := h2
          have hle1 : W2.length + (C ++ D2).length = W.length + (C ++ D).length := hle1
          have hle0 : W2.length ≤ W.length := hle0
          refine go_c0 ?_
          refine go_aload_n (q := 0) (i := 0) rfl rfl dX12_expression_237 ?_
          refine go_getR lf12_131 rfl hx.o hx.r53 dX12_expression_238 ?_
          refine go_aload_n (q := 0) (i := 0) rfl rfl dX12_expression_241 ?_
          refine go_getI lf12_344 rfl hx.o dX12_expression_242 ?_
          rw [show gI m2 274 54 = nI W2.length from h2.w]
          refine go_aload_n (q := 0) (i := 0) rfl rfl dX12_expression_245 ?_
          refine go_getR lf12_20 rfl hx.o hx.r5 dX12_expression_246 ?_
          refine go_aload_n (q := 0) (i := 0) rfl rfl dX12_expression_249 ?_
          refine go_getI lf12_233 rfl hx.o dX12_expression_250 ?_
          rw [h2.g.2.1 h0]
          refine go_iald (j := s1.2) hx.i5 (by omega) (by first | decide | omega) rfl dX12_expression_253 ?_
          rw [(h2.t.k hz2).1, hk, show rk 30 = 15 by decide]
          refine go_iast (j := W2.length) hx.i53 (by omega) (by first | decide | omega) rfl dX12_expression_254 ?_
          refine go_aload_n (q := 0) (i := 0) rfl rfl dX12_expression_255 ?_
          refine go_dup rfl dX12_expression_256 ?_
          refine go_getI lf12_344 rfl hx.o dX12_expression_257 ?_
          rw [gI_n (by decide), show gI m2 274 54 = nI W2.length from h2.w]
          refine go_iconst (v := nI 1) (by decide) dX12_expression_260 ?_
          refine gn_add dX12_expression_261 ?_
          refine go_putI lf12_344 rfl (Or.inl rfl) hx.o dX12_expression_262 ?_
          have h3 : XB c0 B n z m0 (sI (sI m2 312 (upd (gI m2 312) W2.length (nI 15))) 274 (upd (gI (sI m2 312 (upd (gI m2 312) W2.length (nI 15))) 274) 54 (nI (W2.length + 1)))) s1 (30 :: W2) (C ++ D2) := h2.push (k := 30) (u := nI 15) rfl
          have o3 : gI (sI (sI m2 312 (upd (gI m2 312) W2.length (nI 15))) 274 (upd (gI (sI m2 312 (upd (gI m2 312) W2.length (nI 15))) 274) 54 (nI (W2.length + 1)))) 274 12 = nI d := by rw [gI_s, upd_ne (by decide), gI_n (by decide)]; exact o2
          generalize sI (sI m2 312 (upd (gI m2 312) W2.length (nI 15))) 274 (upd (gI (sI m2 312 (upd (gI m2 312) W2.length (nI 15))) 274) 54 (nI (W2.length + 1))) = m3 at h3 o3 ⊢
          have hx := h3.x
          refine go_aload_n (q := 0) (i := 0) rfl rfl dX12_expression_265 ?_
          refine go_callV okmX12_goesOn lmX12_251 ⟨nle rfl, nle rfl⟩ hx.o ⟨by decide, rfl⟩ (ex_goesOn h3.x h3.t h3.g (h3.nx h0 (by omega))) npmX12_goesOn rfl (nle rfl) ⟨nle rfl, nle rfl⟩ dX12_expression_266 ?_
          rintro _ m5 ⟨rfl, f3, f4⟩
          have h5 := h3.fq f3 f4
          have hx := h5.x
          have hs59 := h5.g.2.2.2.1
          have o5 : gI m5 274 12 = nI d := (f4.2 12 (by decide) (by decide) (by decide)).trans o3
          refine go_c0 ?_
          refine go_goto (tgt := 12) dX12_expression_269 (by decide) ?_
          refine go_iload_n (q := 2) (i := 2) rfl rfl dX12_expression_12 ?_
          refine gz_eq (by omega) (tgt := 272) dX12_expression_13 (by decide) (fun h13 => by exfalso; omega) (fun h13 => ?_)
          refine go_aload_n (q := 0) (i := 0) rfl rfl dX12_expression_16 ?_
          refine go_getI lf12_230 rfl hx.o dX12_expression_17 ?_
          rw [h5.fa]
          refine gz_ne (by omega) (tgt := 272) dX12_expression_20 (by decide) (fun h20 => ?_) (fun h20 => ?_)
          · skip
            refine go_vret rfl ⟨Nat.zero_le _, Nat.zero_le _⟩ dX12_expression_272 ?_
            rw [if_pos (show isOp (kG B n z s1.2) by omega), hps] at hS
            have eg : gGo s1 = gTk (kG B n z) (kG B n z s1.2) s1 := gGo_t (fun _ => rfl)
            rw [eg, hps] at h5
            have hf : (gTk (kG B n z) (kG B n z s1.2) (0, s1.2)).1 ≠ 0 := by rw [eg, hps] at h20; omega
            have hG := gS_e hS hf
            refine ⟨rfl, _, _, by rw [hG]; exact h5, by show _ + (W2.length + 1) ≤ 410; omega, fun q hq => ?_⟩
            rw [hG] at hq
            rw [hq] at hf
            exact absurd rfl hf
          · skip
            rw [if_pos (show isOp (kG B n z s1.2) by omega), hps] at hS
            have eg : gGo s1 = gTk (kG B n z) (kG B n z s1.2) s1 := gGo_t (fun _ => rfl)
            rw [eg, hps] at h5
            have hf : (gTk (kG B n z) (kG B n z s1.2) (0, s1.2)).1 = 0 := by rw [eg, hps] at h20; omega
            have g3 := (gTk_z hf).2.2.1
            have g4 := (gTk_z hf).2.2.2
            rw [g4] at hS h5
            have hI2 := hI.op (k := kG B n z s1.2) (v := vG B n z s1.2) (by omega)
            have eT : eTok (kG B n z s1.2) (vG B n z s1.2) (W, D) = (30 :: W2, D2) := by rw [eTok_o (rnk_p (by omega)), hk, show rnk 30 = 2 by decide, hWe]
            rw [eT] at hI2
            exact ih.1 d m5 (0, s1.2 + 1) (30 :: W2) D2 h5 rfl o5 hd6 hI2 (by show (C ++ D2).length + (W2.length + 1) ≤ s1.2 + 1; omega) (by show 401 ≤ f + (s1.2 + 1); omega) hS (nx d true _ hS g3 hd6 hI2 eT.symm)
        · skip
          refine go_aload_n (q := 0) (i := 0) rfl rfl dX12_expression_96 ?_
          refine go_bipush (v := nI 7) (by decide) dX12_expression_97 ?_
          refine go_callV okmX12_is lmX12_248 ⟨nle rfl, nle rfl⟩ hx.o ⟨by decide, rfl⟩ (ex_is h.x h.t h.g (k := 33) (by decide)) npmX12_is rfl (nle rfl) ⟨nle rfl, nle rfl⟩ dX12_expression_99 ?_
          rintro _ mz ⟨rfl, hz⟩
          subst mz
          rw [if_pos ⟨h0, by omega⟩]
          refine go_c1 ?_
          refine gz_eq (by omega) (tgt := 145) dX12_expression_102 (by decide) (fun h102 => by exfalso; omega) (fun h102 => ?_)
          refine go_aload_n (q := 0) (i := 0) rfl rfl dX12_expression_105 ?_
          refine go_getI lf12_257 rfl hx.o dX12_expression_106 ?_
          rw [hd]
          refine go_iload_n (q := 1) (i := 1) rfl rfl dX12_expression_109 ?_
          refine gn_le (by omega) (by omega) (tgt := 145) dX12_expression_110 (by decide) (fun h110 => by exfalso; omega) (fun h110 => ?_)
          refine go_aload_n (q := 0) (i := 0) rfl rfl dX12_expression_113 ?_
          refine go_iconst (v := nI 0) (by decide) dX12_expression_114 ?_
          refine go_callV okmX12_comesOut lmX12_353 ⟨nle rfl, nle rfl⟩ hx.o ⟨by decide, rfl⟩ (ex_out0 h.x h.r h.c (by omega) hwo (by omega)) npmX12_comesOut rfl (nle rfl) ⟨nle rfl, nle rfl⟩ dX12_expression_115 ?_
          rintro _ m2 ⟨rfl, r2, c2⟩
          have hle := eOut_le (r := 1) W (C ++ D)
          obtain ⟨T, eT, e33⟩ := hI.cl (v := vG B n z s1.2) (by omega)
          have eA := eOut_app (r := 1) C W D
          rw [eA] at hle
          rw [eA, eT] at r2
          rw [eT] at hle
          have hle1 : T.length + 1 + (C ++ (eOut 1 W D).2).length = W.length + (C ++ D).length := hle.2.1
          have hle0 : T.length + 1 ≤ W.length := hle.1
          have h2 : XB c0 B n z m0 m2 s1 (32 :: T) (C ++ (eOut 1 W D).2) := h.fe r2 c2
          have hx := h2.x
          have o2 : gI m2 274 12 = nI d := (c2.2.1 12 (by decide) (by decide)).trans hd
          refine go_c0 ?_
          refine go_aload_n (q := 0) (i := 0) rfl rfl dX12_expression_118 ?_
          refine go_dup rfl dX12_expression_119 ?_
          refine go_getI lf12_344 rfl hx.o dX12_expression_120 ?_
          rw [show gI m2 274 54 = nI (T.length + 1) from h2.w]
          refine go_iconst (v := nI 1) (by decide) dX12_expression_123 ?_
          refine gn_sub (by omega) dX12_expression_124 ?_
          rw [Nat.add_sub_cancel]
          refine go_putI lf12_344 rfl (Or.inl rfl) hx.o dX12_expression_125 ?_
          have h3 := h2.pop
          have o3 : gI (sI m2 274 (upd (gI m2 274) 54 (nI T.length))) 274 12 = nI d := by rw [gI_s, upd_ne (by decide)]; exact o2
          generalize sI m2 274 (upd (gI m2 274) 54 (nI T.length)) = m3 at h3 o3 ⊢
          have hx := h3.x
          refine go_aload_n (q := 0) (i := 0) rfl rfl dX12_expression_128 ?_
          refine go_dup rfl dX12_expression_129 ?_
          refine go_getI lf12_257 rfl hx.o dX12_expression_130 ?_
          rw [o3]
          refine go_iconst (v := nI 1) (by decide) dX12_expression_133 ?_
          refine gn_sub (by omega) dX12_expression_134 ?_
          refine go_putI lf12_257 rfl (Or.inl rfl) hx.o dX12_expression_135 ?_
          have h4 := h3.op (v := nI (d - 1))
          have o4 : gI (sI m3 274 (upd (gI m3 274) 12 (nI (d - 1)))) 274 12 = nI (d - 1) := by rw [gI_s, upd_same]
          generalize sI m3 274 (upd (gI m3 274) 12 (nI (d - 1))) = m4 at h4 o4 ⊢
          have hx := h4.x
          refine go_aload_n (q := 0) (i := 0) rfl rfl dX12_expression_138 ?_
          refine go_callV okmX12_goesOn lmX12_251 ⟨nle rfl, nle rfl⟩ hx.o ⟨by decide, rfl⟩ (ex_goesOn h4.x h4.t h4.g (h4.nx h0 (by omega))) npmX12_goesOn rfl (nle rfl) ⟨nle rfl, nle rfl⟩ dX12_expression_139 ?_
          rintro _ m5 ⟨rfl, f3, f4⟩
          have h5 := h4.fq f3 f4
          have hx := h5.x
          have o5 : gI m5 274 12 = nI (d - 1) := (f4.2 12 (by decide) (by decide) (by decide)).trans o4
          refine go_c0 ?_
          refine go_goto (tgt := 96) dX12_expression_142 (by decide) ?_
          rw [if_neg (by omega), if_pos hd0, hps] at hS
          have eg : gGo s1 = gTk (kG B n z) 33 s1 := gGo_t (fun _ => hk)
          rw [eg, hps] at h5
          have hI2 := hI.close (v := vG B n z s1.2) hd0
          rw [e33] at hI2
          rcases gTk_c (K := kG B n z) (k := 33) (p := s1.2) with ⟨e1, e2, e4⟩ | e1
          · rw [e1] at hS h5
            exact ih.2 (d - 1) m5 (0, s1.2 + 1) T _ h5 rfl o5 (by omega) hI2 (by show _ ≤ s1.2 + 1; omega) (by show 401 ≤ f + (s1.2 + 1); omega) hS (nx (d - 1) false _ hS e4 (by omega) hI2 (by rw [hk, e33]))
          · exact ex_x96 h5 e1 (gS_e hS e1) (by omega) (by omega) (eS_o T 3 hI2.1)
        · skip
          refine go_aload_n (q := 0) (i := 0) rfl rfl dX12_expression_96 ?_
          refine go_bipush (v := nI 7) (by decide) dX12_expression_97 ?_
          refine go_callV okmX12_is lmX12_248 ⟨nle rfl, nle rfl⟩ hx.o ⟨by decide, rfl⟩ (ex_is h.x h.t h.g (k := 33) (by decide)) npmX12_is rfl (nle rfl) ⟨nle rfl, nle rfl⟩ dX12_expression_99 ?_
          rintro _ mz ⟨rfl, hz⟩
          subst mz
          rw [if_pos ⟨h0, by omega⟩]
          refine go_c1 ?_
          refine gz_eq (by omega) (tgt := 145) dX12_expression_102 (by decide) (fun h102 => by exfalso; omega) (fun h102 => ?_)
          refine go_aload_n (q := 0) (i := 0) rfl rfl dX12_expression_105 ?_
          refine go_getI lf12_257 rfl hx.o dX12_expression_106 ?_
          rw [hd]
          refine go_iload_n (q := 1) (i := 1) rfl rfl dX12_expression_109 ?_
          refine gn_le (by omega) (by omega) (tgt := 145) dX12_expression_110 (by decide) (fun h110 => ?_) (fun h110 => by exfalso; omega)
          refine go_aload_n (q := 0) (i := 0) rfl rfl dX12_expression_145 ?_
          refine go_bipush (v := nI 8) (by decide) dX12_expression_146 ?_
          refine go_callV okmX12_is lmX12_248 ⟨nle rfl, nle rfl⟩ hx.o ⟨by decide, rfl⟩ (ex_is h.x h.t h.g (k := 27) (by decide)) npmX12_is rfl (nle rfl) ⟨nle rfl, nle rfl⟩ dX12_expression_148 ?_
          rintro _ mz ⟨rfl, hz⟩
          subst mz
          rw [if_neg (fun q => by omega)]
          refine go_c1 ?_
          refine gz_ne (by omega) (tgt := 181) dX12_expression_151 (by decide) (fun h151 => by exfalso; omega) (fun h151 => ?_)
          refine go_aload_n (q := 0) (i := 0) rfl rfl dX12_expression_154 ?_
          refine go_bipush (v := nI 9) (by decide) dX12_expression_155 ?_
          refine go_callV okmX12_is lmX12_248 ⟨nle rfl, nle rfl⟩ hx.o ⟨by decide, rfl⟩ (ex_is h.x h.t h.g (k := 28) (by decide)) npmX12_is rfl (nle rfl) ⟨nle rfl, nle rfl⟩ dX12_expression_157 ?_
          rintro _ mz ⟨rfl, hz⟩
          subst mz
          rw [if_neg (fun q => by omega)]
          refine go_c1 ?_
          refine gz_ne (by omega) (tgt := 181) dX12_expression_160 (by decide) (fun h160 => by exfalso; omega) (fun h160 => ?_)
          refine go_aload_n (q := 0) (i := 0) rfl rfl dX12_expression_163 ?_
          refine go_bipush (v := nI 10) (by decide) dX12_expression_164 ?_
          refine go_callV okmX12_is lmX12_248 ⟨nle rfl, nle rfl⟩ hx.o ⟨by decide, rfl⟩ (ex_is h.x h.t h.g (k := 29) (by decide)) npmX12_is rfl (nle rfl) ⟨nle rfl, nle rfl⟩ dX12_expression_166 ?_
          rintro _ mz ⟨rfl, hz⟩
          subst mz
          rw [if_neg (fun q => by omega)]
          refine go_c1 ?_
          refine gz_ne (by omega) (tgt := 181) dX12_expression_169 (by decide) (fun h169 => by exfalso; omega) (fun h169 => ?_)
          refine go_aload_n (q := 0) (i := 0) rfl rfl dX12_expression_172 ?_
          refine go_bipush (v := nI 15) (by decide) dX12_expression_173 ?_
          refine go_callV okmX12_is lmX12_248 ⟨nle rfl, nle rfl⟩ hx.o ⟨by decide, rfl⟩ (ex_is h.x h.t h.g (k := 30) (by decide)) npmX12_is rfl (nle rfl) ⟨nle rfl, nle rfl⟩ dX12_expression_175 ?_
          rintro _ mz ⟨rfl, hz⟩
          subst mz
          rw [if_neg (fun q => by omega)]
          refine go_c1 ?_
          refine gz_eq (by omega) (tgt := 185) dX12_expression_178 (by decide) (fun h178 => ?_) (fun h178 => by exfalso; omega)
          refine go_iconst (v := nI 0) (by decide) dX12_expression_185 ?_
          refine go_istore_n (q := 2) (i := 2) rfl dX12_expression_186 (nle rfl) (nle rfl) ?_
          refine go_iload_n (q := 2) (i := 2) rfl rfl dX12_expression_187 ?_
          refine gz_ne (by omega) (tgt := 210) dX12_expression_188 (by decide) (fun h188 => by exfalso; omega) (fun h188 => ?_)
          refine go_aload_n (q := 0) (i := 0) rfl rfl dX12_expression_191 ?_
          refine go_getI lf12_257 rfl hx.o dX12_expression_192 ?_
          rw [hd]
          refine go_iload_n (q := 1) (i := 1) rfl rfl dX12_expression_195 ?_
          refine gn_le (by omega) (by omega) (tgt := 204) dX12_expression_196 (by decide) (fun h196 => ?_) (fun h196 => by exfalso; omega)
          refine go_aload_n (q := 0) (i := 0) rfl rfl dX12_expression_204 ?_
          refine go_iconst (v := nI 0) (by decide) dX12_expression_205 ?_
          refine go_callV okmX12_comesOut lmX12_353 ⟨nle rfl, nle rfl⟩ hx.o ⟨by decide, rfl⟩ (ex_out0 h.x h.r h.c (by omega) hwo (by omega)) npmX12_comesOut rfl (nle rfl) ⟨nle rfl, nle rfl⟩ dX12_expression_206 ?_
          rintro _ m3 ⟨rfl, r3, c3⟩
          have h3 := h.fe r3 c3
          have hx := h3.x
          have hle := eOut_le (r := 1) W (C ++ D)
          refine go_c0 ?_
          refine go_vret rfl ⟨Nat.zero_le _, Nat.zero_le _⟩ dX12_expression_209 ?_
          rw [if_neg (by omega), if_neg (by omega)] at hS
          have hd0 : d = 0 := by omega
          subst hd0
          have eA := eOut_app (r := 1) C W D
          refine ⟨rfl, _, _, by rw [← hS]; exact h3, by omega, fun q hq => ?_⟩
          rw [← hS, hps] at hq
          cases hq
          have hR := hR s1.2 (by rw [← hS]; exact hps)
          rw [Nat.sub_self] at hR
          have hR : (W, D) = eR (kG B n z) (vG B n z) (s1.2 - s.2) s.2 ([], []) := hR
          refine ⟨by rw [eA]; exact hI.end.1, ?_, (c3.2.1 12 (by decide) (by decide)).trans hd, by omega⟩
          rw [eA]
          show C ++ (eOut 1 W D).2 = C ++ suC (kG B n z) (vG B n z) s.2 s1.2
          unfold suC
          rw [← hR]
        · skip
          refine go_aload_n (q := 0) (i := 0) rfl rfl dX12_expression_96 ?_
          refine go_bipush (v := nI 7) (by decide) dX12_expression_97 ?_
          refine go_callV okmX12_is lmX12_248 ⟨nle rfl, nle rfl⟩ hx.o ⟨by decide, rfl⟩ (ex_is h.x h.t h.g (k := 33) (by decide)) npmX12_is rfl (nle rfl) ⟨nle rfl, nle rfl⟩ dX12_expression_99 ?_
          rintro _ mz ⟨rfl, hz⟩
          subst mz
          rw [if_neg (fun q => by omega)]
          refine go_c1 ?_
          refine gz_eq (by omega) (tgt := 145) dX12_expression_102 (by decide) (fun h102 => ?_) (fun h102 => by exfalso; omega)
          refine go_aload_n (q := 0) (i := 0) rfl rfl dX12_expression_145 ?_
          refine go_bipush (v := nI 8) (by decide) dX12_expression_146 ?_
          refine go_callV okmX12_is lmX12_248 ⟨nle rfl, nle rfl⟩ hx.o ⟨by decide, rfl⟩ (ex_is h.x h.t h.g (k := 27) (by decide)) npmX12_is rfl (nle rfl) ⟨nle rfl, nle rfl⟩ dX12_expression_148 ?_
          rintro _ mz ⟨rfl, hz⟩
          subst mz
          rw [if_neg (fun q => by omega)]
          refine go_c1 ?_
          refine gz_ne (by omega) (tgt := 181) dX12_expression_151 (by decide) (fun h151 => by exfalso; omega) (fun h151 => ?_)
          refine go_aload_n (q := 0) (i := 0) rfl rfl dX12_expression_154 ?_
          refine go_bipush (v := nI 9) (by decide) dX12_expression_155 ?_
          refine go_callV okmX12_is lmX12_248 ⟨nle rfl, nle rfl⟩ hx.o ⟨by decide, rfl⟩ (ex_is h.x h.t h.g (k := 28) (by decide)) npmX12_is rfl (nle rfl) ⟨nle rfl, nle rfl⟩ dX12_expression_157 ?_
          rintro _ mz ⟨rfl, hz⟩
          subst mz
          rw [if_neg (fun q => by omega)]
          refine go_c1 ?_
          refine gz_ne (by omega) (tgt := 181) dX12_expression_160 (by decide) (fun h160 => by exfalso; omega) (fun h160 => ?_)
          refine go_aload_n (q := 0) (i := 0) rfl rfl dX12_expression_163 ?_
          refine go_bipush (v := nI 10) (by decide) dX12_expression_164 ?_
          refine go_callV okmX12_is lmX12_248 ⟨nle rfl, nle rfl⟩ hx.o ⟨by decide, rfl⟩ (ex_is h.x h.t h.g (k := 29) (by decide)) npmX12_is rfl (nle rfl) ⟨nle rfl, nle rfl⟩ dX12_expression_166 ?_
          rintro _ mz ⟨rfl, hz⟩
          subst mz
          rw [if_neg (fun q => by omega)]
          refine go_c1 ?_
          refine gz_ne (by omega) (tgt := 181) dX12_expression_169 (by decide) (fun h169 => by exfalso; omega) (fun h169 => ?_)
          refine go_aload_n (q := 0) (i := 0) rfl rfl dX12_expression_172 ?_
          refine go_bipush (v := nI 15) (by decide) dX12_expression_173 ?_
          refine go_callV okmX12_is lmX12_248 ⟨nle rfl, nle rfl⟩ hx.o ⟨by decide, rfl⟩ (ex_is h.x h.t h.g (k := 30) (by decide)) npmX12_is rfl (nle rfl) ⟨nle rfl, nle rfl⟩ dX12_expression_175 ?_
          rintro _ mz ⟨rfl, hz⟩
          subst mz
          rw [if_neg (fun q => by omega)]
          refine go_c1 ?_
          refine gz_eq (by omega) (tgt := 185) dX12_expression_178 (by decide) (fun h178 => ?_) (fun h178 => by exfalso; omega)
          refine go_iconst (v := nI 0) (by decide) dX12_expression_185 ?_
          refine go_istore_n (q := 2) (i := 2) rfl dX12_expression_186 (nle rfl) (nle rfl) ?_
          refine go_iload_n (q := 2) (i := 2) rfl rfl dX12_expression_187 ?_
          refine gz_ne (by omega) (tgt := 210) dX12_expression_188 (by decide) (fun h188 => by exfalso; omega) (fun h188 => ?_)
          refine go_aload_n (q := 0) (i := 0) rfl rfl dX12_expression_191 ?_
          refine go_getI lf12_257 rfl hx.o dX12_expression_192 ?_
          rw [hd]
          refine go_iload_n (q := 1) (i := 1) rfl rfl dX12_expression_195 ?_
          refine gn_le (by omega) (by omega) (tgt := 204) dX12_expression_196 (by decide) (fun h196 => ?_) (fun h196 => ?_)
          · skip
            refine go_aload_n (q := 0) (i := 0) rfl rfl dX12_expression_204 ?_
            refine go_iconst (v := nI 0) (by decide) dX12_expression_205 ?_
            refine go_callV okmX12_comesOut lmX12_353 ⟨nle rfl, nle rfl⟩ hx.o ⟨by decide, rfl⟩ (ex_out0 h.x h.r h.c (by omega) hwo (by omega)) npmX12_comesOut rfl (nle rfl) ⟨nle rfl, nle rfl⟩ dX12_expression_206 ?_
            rintro _ m3 ⟨rfl, r3, c3⟩
            have h3 := h.fe r3 c3
            have hx := h3.x
            have hle := eOut_le (r := 1) W (C ++ D)
            refine go_c0 ?_
            refine go_vret rfl ⟨Nat.zero_le _, Nat.zero_le _⟩ dX12_expression_209 ?_
            rw [if_neg (by omega), if_neg (by omega)] at hS
            have hd0 : d = 0 := by omega
            subst hd0
            have eA := eOut_app (r := 1) C W D
            refine ⟨rfl, _, _, by rw [← hS]; exact h3, by omega, fun q hq => ?_⟩
            rw [← hS, hps] at hq
            cases hq
            have hR := hR s1.2 (by rw [← hS]; exact hps)
            rw [Nat.sub_self] at hR
            have hR : (W, D) = eR (kG B n z) (vG B n z) (s1.2 - s.2) s.2 ([], []) := hR
            refine ⟨by rw [eA]; exact hI.end.1, ?_, (c3.2.1 12 (by decide) (by decide)).trans hd, by omega⟩
            rw [eA]
            show C ++ (eOut 1 W D).2 = C ++ suC (kG B n z) (vG B n z) s.2 s1.2
            unfold suC
            rw [← hR]
          · skip
            refine go_aload_n (q := 0) (i := 0) rfl rfl dX12_expression_199 ?_
            refine go_iconst (v := nI 1) (by decide) dX12_expression_200 ?_
            refine go_callV okmX12_fail lmX12_245 ⟨nle rfl, nle rfl⟩ hx.o ⟨by decide, rfl⟩ (ex_gfail h.x h.t h.g (c := 1) (by decide)) npmX12_fail rfl (nle rfl) ⟨nle rfl, nle rfl⟩ dX12_expression_201 ?_
            rintro _ m2 ⟨rfl, f1, f2⟩
            have h2 := h.fq f1 f2
            have hx := h2.x
            refine go_c0 ?_
            refine go_aload_n (q := 0) (i := 0) rfl rfl dX12_expression_204 ?_
            refine go_iconst (v := nI 0) (by decide) dX12_expression_205 ?_
            refine go_callV okmX12_comesOut lmX12_353 ⟨nle rfl, nle rfl⟩ hx.o ⟨by decide, rfl⟩ (ex_out0 h2.x h2.r h2.c (by omega) hwo (by omega)) npmX12_comesOut rfl (nle rfl) ⟨nle rfl, nle rfl⟩ dX12_expression_206 ?_
            rintro _ m3 ⟨rfl, r3, c3⟩
            have h3 := h2.fe r3 c3
            have hx := h3.x
            have hle := eOut_le (r := 1) W (C ++ D)
            refine go_c0 ?_
            refine go_vret rfl ⟨Nat.zero_le _, Nat.zero_le _⟩ dX12_expression_209 ?_
            rw [if_neg (by omega), if_pos (by omega)] at hS
            have e1 : gTk (kG B n z) 33 s1 = gFl 1 s1 := (gTk_1 (fun _ => by omega)).symm
            have e2 : gFl 1 s1 = (1, s1.2) := if_neg (fun w => w h0)
            rw [e1] at hS
            have hG := gS_e hS (by rw [e2]; exact Nat.succ_ne_zero 0)
            refine ⟨rfl, _, _, by rw [hG]; exact h3, by omega, fun q hq => ?_⟩
            rw [hG, e2] at hq
            cases hq
  have hx := h.x
  by_cases h0 : s.1 = 0
  · skip
    refine go_aload_n (q := 0) (i := 0) rfl rfl dX12_expression_0 ?_
    refine go_iconst (v := nI 0) (by decide) dX12_expression_1 ?_
    refine go_putI lf12_344 rfl (Or.inl rfl) hx.o dX12_expression_2 ?_
    have h1 := h.clr
    have o1 : gI (sI m 274 (upd (gI m 274) 54 (nI 0))) 274 12 = nI 0 := by rw [gI_s, upd_ne (by decide)]; exact hop h0
    generalize sI m 274 (upd (gI m 274) 54 (nI 0)) = m1 at h1 o1 ⊢
    have hx := h1.x
    refine go_aload_n (q := 0) (i := 0) rfl rfl dX12_expression_5 ?_
    refine go_getI lf12_257 rfl hx.o dX12_expression_6 ?_
    rw [o1]
    refine go_istore_n (q := 1) (i := 1) rfl dX12_expression_9 (nle rfl) (nle rfl) ?_
    refine go_iconst (v := nI 1) (by decide) dX12_expression_10 ?_
    refine go_istore_n (q := 2) (i := 2) rfl dX12_expression_11 (nle rfl) (nle rfl) ?_
    refine go_iload_n (q := 2) (i := 2) rfl rfl dX12_expression_12 ?_
    refine gz_eq (by omega) (tgt := 272) dX12_expression_13 (by decide) (fun h13 => by exfalso; omega) (fun h13 => ?_)
    refine go_aload_n (q := 0) (i := 0) rfl rfl dX12_expression_16 ?_
    refine go_getI lf12_230 rfl hx.o dX12_expression_17 ?_
    rw [h1.fa]
    refine gz_ne (by omega) (tgt := 272) dX12_expression_20 (by decide) (fun h20 => by exfalso; omega) (fun h20 => ?_)
    exact (key 401).1 0 m1 s [] [] (by rw [List.append_nil]; exact h1) h0 o1 (by decide) ⟨True.intro, rfl, rfl⟩ (by rw [List.append_nil]; exact hB h0) (by omega) rfl (fun q hq => rfl)
  · skip
    refine go_aload_n (q := 0) (i := 0) rfl rfl dX12_expression_0 ?_
    refine go_iconst (v := nI 0) (by decide) dX12_expression_1 ?_
    refine go_putI lf12_344 rfl (Or.inl rfl) hx.o dX12_expression_2 ?_
    have h1 := h.clr
    generalize sI m 274 (upd (gI m 274) 54 (nI 0)) = m1 at h1 ⊢
    have hx := h1.x
    have hs9 := h1.g.2.2.2.1
    refine go_aload_n (q := 0) (i := 0) rfl rfl dX12_expression_5 ?_
    refine go_getI lf12_257 rfl hx.o dX12_expression_6 ?_
    refine go_istore_n (q := 1) (i := 1) rfl dX12_expression_9 (nle rfl) (nle rfl) ?_
    refine go_iconst (v := nI 1) (by decide) dX12_expression_10 ?_
    refine go_istore_n (q := 2) (i := 2) rfl dX12_expression_11 (nle rfl) (nle rfl) ?_
    refine go_iload_n (q := 2) (i := 2) rfl rfl dX12_expression_12 ?_
    refine gz_eq (by omega) (tgt := 272) dX12_expression_13 (by decide) (fun h13 => by exfalso; omega) (fun h13 => ?_)
    refine go_aload_n (q := 0) (i := 0) rfl rfl dX12_expression_16 ?_
    refine go_getI lf12_230 rfl hx.o dX12_expression_17 ?_
    rw [h1.fa]
    refine gz_ne (by omega) (tgt := 272) dX12_expression_20 (by decide) (fun h20 => ?_) (fun h20 => by exfalso; omega)
    refine go_vret rfl ⟨Nat.zero_le _, Nat.zero_le _⟩ dX12_expression_272 ?_
    have hG : gS (kG B n z) s = s := gSum_f h0
    refine ⟨rfl, [], C, by rw [hG]; exact h1, hB2, fun q hq => ?_⟩
    rw [hG] at hq
    rw [hq] at h0
    exact absurd rfl h0
