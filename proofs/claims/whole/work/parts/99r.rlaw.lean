theorem gTk_ok {K : Nat → Nat} {k p : Nat} (h : K p = k) (h4 : p < 400) : gTk K k (0, p) = (0, p + 1) := by
  unfold gTk
  rw [if_neg (fun w => w rfl), if_neg (fun w => w h), if_neg (by show ¬ 400 ≤ p; omega)]
theorem gTk_f {K : Nat → Nat} {k : Nat} {s : Nat × Nat} (h : s.1 ≠ 0) : gTk K k s = s := if_pos h
/-- a law's end: its terms, its semicolon -/
abbrev gLE (K : Nat → Nat) (n c : Nat) (s : Nat × Nat) : Nat × Nat := gTk K 25 (gS K (gIfs K n c s))
theorem gLE_f {K : Nat → Nat} {n c : Nat} {s : Nat × Nat} (h : s.1 ≠ 0) : gLE K n c s = s := by
  show gTk K 25 (gS K (gIfs K n c s)) = s
  rw [gIfs_f h, show gS K s = s from gSum_f h, gTk_f h]
theorem gIf_5 {K : Nat → Nat} {s : Nat × Nat} {c : Nat} (h : 4 < c) (h0 : s.1 = 0) : gIf K c s = (2, s.2) := by
  unfold gIf
  rw [if_pos h, show gFl 2 s = (2, s.2) from if_neg (fun w => w h0)]
  have e : ((2, s.2) : Nat × Nat).1 ≠ 0 := Nat.succ_ne_zero 1
  have e2 : gS K (2, s.2) = (2, s.2) := gSum_f e
  rw [gTk_f e, e2, gTk_f e, e2, gTk_f e, e2, gTk_f e]
/-- a law's state behind its IFs so far -/
def LwS (m1 : Me) (c0 b sd : Nat) (K V : Nat → Nat) (C D : Cs) (a0 n i : Nat) (s1 : Nat × Nat) : Prop := D.length ≤ s1.2 ∧ gI m1 274 12 = nI 0 ∧ 4 * (b - 130 * sd) + 4 * i + 2 ≤ s1.2 ∧ 401 ≤ n + s1.2 ∧ (∃ X, D = C ++ X) ∧ ∃ bs : List Br, bs.length = i ∧ (∀ j c, bs[j]? = some c → BrA m1 c0 D (b + j) c) ∧ (∀ c ∈ bs, okB c) ∧ laP K V a0 = (bs ++ (laB K V n s1.2).1, suC K V (laB K V n s1.2).2 (sQ K (laB K V n s1.2).2))
theorem laB_11 {K V : Nat → Nat} {n a : Nat} (h : K a = 11) : laB K V (n + 1) a = (brP K V a :: (laB K V n (brN K a)).1, (laB K V n (brN K a)).2) := by rw [laB, if_pos h]
theorem laB_no {K V : Nat → Nat} {n a : Nat} (h : K a ≠ 11) : laB K V n a = ([], a) := by
  cases n with
  | zero => rfl
  | succ n => rw [laB, if_neg h]
/-- the first parts of a list, and one more -/
theorem get_snoc {α : Type} {P : Nat → α → Prop} {l : List α} {x : α} (h : ∀ j c, l[j]? = some c → P j c) (k : P l.length x) : ∀ j c, (l ++ [x])[j]? = some c → P j c := fun j c hj => by
  by_cases q : j < l.length
  · rw [List.getElem?_append_left q] at hj
    exact h j c hj
  · have hlt := (List.getElem?_eq_some_iff.mp hj).1
    rw [List.length_append] at hlt
    have hlt : j < l.length + 1 := hlt
    have e : j = l.length := by omega
    subst e
    rw [List.getElem?_append_right (Nat.le_refl _), Nat.sub_self] at hj
    cases hj
    exact k
/-- the law as it stands when all is read -/
def LwF (m' : Me) (c0 b b' kk : Nat) (C D' : Cs) (bs : List Br) (e : Cs) (sd q : Nat) : Prop := D'.length ≤ q ∧ 4 * (b' - 130 * sd) ≤ q ∧ gI m' 274 12 = nI 0 ∧ (∃ X, D' = C ++ X) ∧ LwA m' c0 D' b bs e ∧ gI m' 303 kk = nI b ∧ gI m' 304 kk = nI b' ∧ b' = b + bs.length + 1 ∧ (∀ c ∈ bs, okB c) ∧ okC e
theorem ap_len {α : Type} {l : List α} {x : α} : (l ++ [x]).length = l.length + 1 := List.length_append
theorem ex_app {D C : Cs} (h : ∃ X, D = C ++ X) (Y : Cs) : ∃ X, D ++ Y = C ++ X := by
  obtain ⟨X, rfl⟩ := h
  exact ⟨X ++ Y, List.append_assoc _ _ _⟩
set_option maxRecDepth 100000 in
set_option maxHeartbeats 8000000 in
theorem ex_law129 {c0 b k sd i nf : Nat} {B : Nat → Nat} {n z : Nat} {m m1 : Me} {s s1 : Nat × Nat} {W : List Nat} {C D : Cs} {x3 : Nat} (hV : ∀ j, kG B n z j = 24 → vG B n z j < 65536) (hsd : gI m 274 19 = nI sd) (hs2 : sd < 2) (hk4 : k < 4) (hbl : 130 * sd ≤ b) (hbu : b ≤ 130 * sd + 100) (h : XB c0 B n z m1 m1 s1 W D) (h44 : gI m1 274 44 = nI (b + i)) (hi4 : i ≤ 4) (hT : Ft c0 b (130 * sd + 130) (4 * sd + k) m m1) (hB2 : D.length + W.length ≤ 410) (hop : s1.1 = 0 → gI m1 274 12 = nI 0) (hB : s1.1 = 0 → D.length ≤ s1.2) (hS : gTk (kG B n z) 25 (gS (kG B n z) s1) = gLE (kG B n z) 400 1 (gTk (kG B n z) 26 s)) (hno : kG B n z s1.2 ≠ 11) (hL : s1.1 = 0 → LwS m1 c0 b sd (kG B n z) (vG B n z) C D (s.2 + 1) nf i s1) : Go mX12_tellLaw (fun o m' => o = none ∧ ∃ W' D' b', XB c0 B n z m' m' (gLE (kG B n z) 400 1 (gTk (kG B n z) 26 s)) W' D' ∧ Ft c0 b (130 * sd + 130) (4 * sd + k) m m' ∧ gI m' 274 44 = nI b' ∧ b ≤ b' ∧ b' ≤ 130 * sd + 110 ∧ D'.length + W'.length ≤ 410 ∧ ∀ q, gLE (kG B n z) 400 1 (gTk (kG B n z) 26 s) = (0, q) → LwF m' c0 b b' (4 * sd + k) C D' (laP (kG B n z) (vG B n z) (s.2 + 1)).1 (laP (kG B n z) (vG B n z) (s.2 + 1)).2 sd q) 129 [some (.ref 274), some (.int (nI k)), some (.int (nI b)), some (.int (nI x3))] [] m1 0 0 := by
  have hx := h.x
  refine go_aload_n (q := 0) (i := 0) rfl rfl dX12_tellLaw_129 ?_
  refine go_getR lf12_109 rfl hx.o hx.r45 dX12_tellLaw_130 ?_
  refine go_aload_n (q := 0) (i := 0) rfl rfl dX12_tellLaw_133 ?_
  refine go_getI lf12_269 rfl hx.o dX12_tellLaw_134 ?_
  rw [h44]
  refine go_iconst (v := nI 0) (by decide) dX12_tellLaw_137 ?_
  refine go_zast (j := (b + i)) hx.i45 (by omega) (by first | decide | omega) rfl (by decide) dX12_tellLaw_138 ?_
  have h2 := h.row (x := 305) (r := upd (gI m1 305) (b + i) (nI 0)) (by decide)
  have t2 : Ft c0 (b + i) (130 * sd + 130) (4 * sd + k) m1 (sI m1 305 (upd (gI m1 305) (b + i) (nI 0))) := Ft.row (by decide) ⟨Nat.le_refl _, by omega⟩
  have a2 : gI (sI m1 305 (upd (gI m1 305) (b + i) (nI 0))) 274 44 = nI (b + i) := by rw [gI_n (by decide)]; exact h44
  have a3 : gI (sI m1 305 (upd (gI m1 305) (b + i) (nI 0))) 274 12 = gI m1 274 12 := by rw [gI_n (by decide)]
  have a5 : gI (sI m1 305 (upd (gI m1 305) (b + i) (nI 0))) 305 (b + i) = nI 0 := by rw [gI_s, upd_same]
  generalize sI m1 305 (upd (gI m1 305) (b + i) (nI 0)) = m2 at h2 t2 a2 a3 a5 ⊢
  have hx := h2.x
  refine go_aload_n (q := 0) (i := 0) rfl rfl dX12_tellLaw_139 ?_
  refine go_callV okmX12_term lmX12_341 ⟨nle rfl, nle rfl⟩ hx.o ⟨by decide, rfl⟩ (ex_term2 (lo := b + i) (hi := (130 * sd + 130)) (kk := (4 * sd + k)) hV h2 (fun q => a3.trans (hop q)) hB hB2 a2 (by omega) ⟨Nat.le_refl _, by omega⟩) npmX12_term rfl (nle rfl) ⟨nle rfl, nle rfl⟩ dX12_tellLaw_140 ?_
  rintro _ m3 ⟨rfl, W3, D3, h3, t3, a44, e8, e9, e5, e6, e7, l3, -, q3⟩
  have hx := h3.x
  refine go_c0 ?_
  refine go_aload_n (q := 0) (i := 0) rfl rfl dX12_tellLaw_143 ?_
  refine go_iconst (v := nI 4) (by decide) dX12_tellLaw_144 ?_
  refine go_callV okmX12_must lmX12_296 ⟨nle rfl, nle rfl⟩ hx.o ⟨by decide, rfl⟩ (ex_must h3.x h3.t h3.g (k := 25) (by decide)) npmX12_must rfl (nle rfl) ⟨nle rfl, nle rfl⟩ dX12_tellLaw_145 ?_
  rintro _ m4 ⟨rfl, f1, f2⟩
  have h4 := (h3.fq f1 f2).self
  have hx := h4.x
  have hs9 := h4.g.2.2.2.1
  have b44 : gI m4 274 44 = nI (b + i + 1) := (f2.2 44 (by decide) (by decide) (by decide)).trans a44
  have tt : Ft c0 (b + i) (130 * sd + 130) (4 * sd + k) m1 m4 := (t2.tr t3).tr f2.fr.ft
  have hsd4 : gI m4 274 19 = nI sd := (tt.2.1 19 (by decide) (by decide) (by decide) (by decide) (by decide) (by decide) (by decide)).trans ((hT.2.1 19 (by decide) (by decide) (by decide) (by decide) (by decide) (by decide) (by decide)).trans hsd)
  refine go_c0 ?_
  refine go_aload_n (q := 0) (i := 0) rfl rfl dX12_tellLaw_148 ?_
  refine go_getI lf12_230 rfl hx.o dX12_tellLaw_149 ?_
  rw [h4.fa]
  refine gz_le (by omega) (tgt := 156) dX12_tellLaw_152 (by decide) (fun h152 => ?_) (fun h152 => ?_)
  · skip
    refine go_aload_n (q := 0) (i := 0) rfl rfl dX12_tellLaw_156 ?_
    refine go_getR lf12_103 rfl hx.o hx.r42 dX12_tellLaw_157 ?_
    refine go_iconst (v := nI 4) (by decide) dX12_tellLaw_160 ?_
    refine go_aload_n (q := 0) (i := 0) rfl rfl dX12_tellLaw_161 ?_
    refine go_getI lf12_263 rfl hx.o dX12_tellLaw_162 ?_
    rw [hsd4]
    refine gn_mul dX12_tellLaw_165 ?_
    refine go_iload_n (q := 1) (i := 1) rfl rfl dX12_tellLaw_166 ?_
    refine gn_add dX12_tellLaw_167 ?_
    refine go_iload_n (q := 2) (i := 2) rfl rfl dX12_tellLaw_168 ?_
    refine go_iast (j := ((4 * sd) + k)) hx.i42 (by omega) (by first | decide | omega) rfl dX12_tellLaw_169 ?_
    refine go_aload_n (q := 0) (i := 0) rfl rfl dX12_tellLaw_170 ?_
    refine go_getR lf12_106 rfl hx.o hx.r43 dX12_tellLaw_171 ?_
    refine go_iconst (v := nI 4) (by decide) dX12_tellLaw_174 ?_
    refine go_aload_n (q := 0) (i := 0) rfl rfl dX12_tellLaw_175 ?_
    refine go_getI lf12_263 rfl hx.o dX12_tellLaw_176 ?_
    rw [gI_n (by decide), hsd4]
    refine gn_mul dX12_tellLaw_179 ?_
    refine go_iload_n (q := 1) (i := 1) rfl rfl dX12_tellLaw_180 ?_
    refine gn_add dX12_tellLaw_181 ?_
    refine go_aload_n (q := 0) (i := 0) rfl rfl dX12_tellLaw_182 ?_
    refine go_getI lf12_269 rfl hx.o dX12_tellLaw_183 ?_
    rw [gI_n (by decide), b44]
    refine go_iast (j := ((4 * sd) + k)) hx.i43 (by omega) (by first | decide | omega) rfl dX12_tellLaw_186 ?_
    have h5 := h4.row (x := 303) (r := upd (gI m4 303) (4 * sd + k) (nI b)) (by decide)
    have h6 := h5.row (x := 304) (r := upd (gI (sI m4 303 (upd (gI m4 303) (4 * sd + k) (nI b))) 304) (4 * sd + k) (nI (b + i + 1))) (by decide)
    have t5 : Ft c0 (b + i) (130 * sd + 130) (4 * sd + k) m4 (sI (sI m4 303 (upd (gI m4 303) (4 * sd + k) (nI b))) 304 (upd (gI (sI m4 303 (upd (gI m4 303) (4 * sd + k) (nI b))) 304) (4 * sd + k) (nI (b + i + 1)))) := (Ft.bnd (Or.inl rfl)).tr (Ft.bnd (Or.inr rfl))
    refine go_vret rfl ⟨Nat.zero_le _, Nat.zero_le _⟩ dX12_tellLaw_187 ?_
    have hz : (gTk (kG B n z) 25 (gS (kG B n z) s1)).1 = 0 := by omega
    obtain ⟨g1, g2, g3, g4⟩ := gTk_z hz
    have g5 := pr_z g1
    obtain ⟨x1, x2, x3, x4⟩ := q3 _ g5
    obtain ⟨y1, y2, y3, y4, y5, bs, y6, y7, y8, y9⟩ := hL (gS_z g1)
    have hl := laB_no (K := kG B n z) (V := vG B n z) (n := nf) hno
    have hp0 := pr_z (gS_z g1)
    rw [hl, List.append_nil] at y9
    have esq : sQ (kG B n z) s1.2 = (gS (kG B n z) s1).2 := by show (gS (kG B n z) (0, s1.2)).2 = _; rw [← hp0]
    have hsu : okC (suC (kG B n z) (vG B n z) s1.2 (gS (kG B n z) s1).2) := (su_ok (V := vG B n z) hV (by rw [← hp0]; exact g5) (by have := h.g.2.2.2.2.1; have := h.t.2.1; omega)).2.2.2.2
    have hlt : s1.2 < (gS (kG B n z) s1).2 := (su_ok (V := vG B n z) hV (by rw [← hp0]; exact g5) (by have := h.g.2.2.2.2.1; have := h.t.2.1; omega)).1
    have hext : ∀ j c, D[j]? = some c → D3[j]? = some c := fun j c hj => by rw [x2]; exact ap_l hj
    refine ⟨rfl, W3, D3, b + i + 1, by rw [← hS]; exact h6, hT.tr ((tt.tr t5).mn (by omega) (Nat.le_refl _)), by rw [gI_n (by decide), gI_n (by decide)]; exact b44, by omega, by omega, l3, fun q hq => ?_⟩
    rw [← hS, g4] at hq
    cases hq
    refine ⟨by omega, by rw [esq] at *; omega, by rw [gI_n (by decide), gI_n (by decide), f2.2 12 (by decide) (by decide) (by decide)]; exact x3, by rw [x2]; exact ex_app y5 _, ?_, ?_, ?_, ?_, ?_, ?_⟩
    · rw [y9]
      refine LwA.snoc (b := (C, C, C)) bs b (fun j c hj => ?_) ?_
      · have hjl := (List.getElem?_eq_some_iff.mp hj).1
        refine (y7 j c hj).keep (fun r h1 h2 => ?_) hext
        rw [gI_n (by omega), gI_n (by omega)]
        exact tt.2.2.2.1 r (b + j) h1 h2 (by omega)
      · refine ⟨?_, D.length, ?_, ?_, ?_, ?_⟩
        · rw [gI_n (by omega), gI_n (by omega), f2.1.at (by decide), e5, y6]; exact a5
        · rw [gI_n (by omega), gI_n (by omega), f2.1.at (by decide), e8, y6, upd_same]
        · rw [gI_n (by omega), gI_n (by omega), f2.1.at (by decide), e9, y6, upd_same, x2, List.length_append, esq, Nat.add_assoc]
        · have hx2 := congrArg List.length x2
          rw [List.length_append] at hx2
          show D.length + (suC (kG B n z) (vG B n z) s1.2 (sQ (kG B n z) s1.2)).length ≤ 420
          rw [esq]
          omega
        · intro j c hj
          show D3[D.length + j]? = some c
          rw [x2]
          refine ap_r ?_
          rw [← esq]
          exact hj
    · rw [gI_n (by decide), gI_s, upd_same]
    · rw [gI_s, upd_same]
    · rw [y9, y6]
    · rw [y9]; exact y8
    · rw [y9]
      show okC (suC (kG B n z) (vG B n z) s1.2 (sQ (kG B n z) s1.2))
      rw [esq]
      exact hsu
  · skip
    refine go_vret rfl ⟨Nat.zero_le _, Nat.zero_le _⟩ dX12_tellLaw_155 ?_
    have hne : (gTk (kG B n z) 25 (gS (kG B n z) s1)).1 ≠ 0 := by omega
    refine ⟨rfl, W3, D3, b + i + 1, by rw [← hS]; exact h4, hT.tr (tt.mn (by omega) (Nat.le_refl _)), b44, by omega, by omega, l3, fun q hq => ?_⟩
    rw [← hS] at hq
    rw [hq] at hne
    exact absurd rfl hne
set_option maxRecDepth 100000 in
set_option maxHeartbeats 8000000 in
theorem ex_law129f {c0 b k sd i nf : Nat} {B : Nat → Nat} {n z : Nat} {m m1 : Me} {s s1 : Nat × Nat} {W : List Nat} {C D : Cs} {x3 : Nat} (hV : ∀ j, kG B n z j = 24 → vG B n z j < 65536) (hsd : gI m 274 19 = nI sd) (hs2 : sd < 2) (hk4 : k < 4) (hbl : 130 * sd ≤ b) (hbu : b ≤ 130 * sd + 100) (h : XB c0 B n z m1 m1 s1 W D) (h44 : gI m1 274 44 = nI (b + i)) (hi4 : i ≤ 4) (hT : Ft c0 b (130 * sd + 130) (4 * sd + k) m m1) (hB2 : D.length + W.length ≤ 410) (hf : s1.1 ≠ 0) (hS : gTk (kG B n z) 25 (gS (kG B n z) s1) = gLE (kG B n z) 400 1 (gTk (kG B n z) 26 s)) : Go mX12_tellLaw (fun o m' => o = none ∧ ∃ W' D' b', XB c0 B n z m' m' (gLE (kG B n z) 400 1 (gTk (kG B n z) 26 s)) W' D' ∧ Ft c0 b (130 * sd + 130) (4 * sd + k) m m' ∧ gI m' 274 44 = nI b' ∧ b ≤ b' ∧ b' ≤ 130 * sd + 110 ∧ D'.length + W'.length ≤ 410 ∧ ∀ q, gLE (kG B n z) 400 1 (gTk (kG B n z) 26 s) = (0, q) → LwF m' c0 b b' (4 * sd + k) C D' (laP (kG B n z) (vG B n z) (s.2 + 1)).1 (laP (kG B n z) (vG B n z) (s.2 + 1)).2 sd q) 129 [some (.ref 274), some (.int (nI k)), some (.int (nI b)), some (.int (nI x3))] [] m1 0 0 := by
  have hx := h.x
  have hop : s1.1 = 0 → gI m1 274 12 = nI 0 := fun q => absurd q hf
  have hB : s1.1 = 0 → D.length ≤ s1.2 := fun q => absurd q hf
  refine go_aload_n (q := 0) (i := 0) rfl rfl dX12_tellLaw_129 ?_
  refine go_getR lf12_109 rfl hx.o hx.r45 dX12_tellLaw_130 ?_
  refine go_aload_n (q := 0) (i := 0) rfl rfl dX12_tellLaw_133 ?_
  refine go_getI lf12_269 rfl hx.o dX12_tellLaw_134 ?_
  rw [h44]
  refine go_iconst (v := nI 0) (by decide) dX12_tellLaw_137 ?_
  refine go_zast (j := (b + i)) hx.i45 (by omega) (by first | decide | omega) rfl (by decide) dX12_tellLaw_138 ?_
  have h2 := h.row (x := 305) (r := upd (gI m1 305) (b + i) (nI 0)) (by decide)
  have t2 : Ft c0 (b + i) (130 * sd + 130) (4 * sd + k) m1 (sI m1 305 (upd (gI m1 305) (b + i) (nI 0))) := Ft.row (by decide) ⟨Nat.le_refl _, by omega⟩
  have a2 : gI (sI m1 305 (upd (gI m1 305) (b + i) (nI 0))) 274 44 = nI (b + i) := by rw [gI_n (by decide)]; exact h44
  have a3 : gI (sI m1 305 (upd (gI m1 305) (b + i) (nI 0))) 274 12 = gI m1 274 12 := by rw [gI_n (by decide)]
  have a5 : gI (sI m1 305 (upd (gI m1 305) (b + i) (nI 0))) 305 (b + i) = nI 0 := by rw [gI_s, upd_same]
  generalize sI m1 305 (upd (gI m1 305) (b + i) (nI 0)) = m2 at h2 t2 a2 a3 a5 ⊢
  have hx := h2.x
  refine go_aload_n (q := 0) (i := 0) rfl rfl dX12_tellLaw_139 ?_
  refine go_callV okmX12_term lmX12_341 ⟨nle rfl, nle rfl⟩ hx.o ⟨by decide, rfl⟩ (ex_term2 (lo := b + i) (hi := (130 * sd + 130)) (kk := (4 * sd + k)) hV h2 (fun q => a3.trans (hop q)) hB hB2 a2 (by omega) ⟨Nat.le_refl _, by omega⟩) npmX12_term rfl (nle rfl) ⟨nle rfl, nle rfl⟩ dX12_tellLaw_140 ?_
  rintro _ m3 ⟨rfl, W3, D3, h3, t3, a44, e8, e9, e5, e6, e7, l3, -, q3⟩
  have hx := h3.x
  refine go_c0 ?_
  refine go_aload_n (q := 0) (i := 0) rfl rfl dX12_tellLaw_143 ?_
  refine go_iconst (v := nI 4) (by decide) dX12_tellLaw_144 ?_
  refine go_callV okmX12_must lmX12_296 ⟨nle rfl, nle rfl⟩ hx.o ⟨by decide, rfl⟩ (ex_must h3.x h3.t h3.g (k := 25) (by decide)) npmX12_must rfl (nle rfl) ⟨nle rfl, nle rfl⟩ dX12_tellLaw_145 ?_
  rintro _ m4 ⟨rfl, f1, f2⟩
  have h4 := (h3.fq f1 f2).self
  have hx := h4.x
  have hs9 := h4.g.2.2.2.1
  have b44 : gI m4 274 44 = nI (b + i + 1) := (f2.2 44 (by decide) (by decide) (by decide)).trans a44
  have tt : Ft c0 (b + i) (130 * sd + 130) (4 * sd + k) m1 m4 := (t2.tr t3).tr f2.fr.ft
  refine go_c0 ?_
  refine go_aload_n (q := 0) (i := 0) rfl rfl dX12_tellLaw_148 ?_
  refine go_getI lf12_230 rfl hx.o dX12_tellLaw_149 ?_
  rw [h4.fa]
  refine gz_le (by omega) (tgt := 156) dX12_tellLaw_152 (by decide) (fun h152 => by exfalso; rw [gTk_f (by rw [show gS (kG B n z) s1 = s1 from gSum_f hf]; exact hf), show gS (kG B n z) s1 = s1 from gSum_f hf] at h152; omega) (fun h152 => ?_)
  refine go_vret rfl ⟨Nat.zero_le _, Nat.zero_le _⟩ dX12_tellLaw_155 ?_
  have hne : (gTk (kG B n z) 25 (gS (kG B n z) s1)).1 ≠ 0 := by omega
  refine ⟨rfl, W3, D3, b + i + 1, by rw [← hS]; exact h4, hT.tr (tt.mn (by omega) (Nat.le_refl _)), b44, by omega, by omega, l3, fun q hq => ?_⟩
  rw [← hS] at hq
  rw [hq] at hne
  exact absurd rfl hne
