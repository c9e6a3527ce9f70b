/-- what reading a law writes: also its branches from lo to hi, its two bounds at kk -/
def Ft (c0 lo hi kk : Nat) (m m' : Me) : Prop := Fx (fun x => x = 274 ∨ (303 ≤ x ∧ x ≤ 312)) (fun _ => False) m m' ∧ (∀ k, k ≠ 11 → k ≠ 12 → k ≠ 13 → k ≠ 14 → k ≠ 44 → k ≠ 50 → k ≠ 54 → gI m' 274 k = gI m 274 k) ∧ (∀ j, (j < c0 ∨ c0 + 420 ≤ j) → gI m' 310 j = gI m 310 j ∧ gI m' 311 j = gI m 311 j) ∧ (∀ r j, 305 ≤ r → r ≤ 309 → (j < lo ∨ hi ≤ j) → gI m' r j = gI m r j) ∧ ∀ j, j ≠ kk → gI m' 303 j = gI m 303 j ∧ gI m' 304 j = gI m 304 j
section FTS
variable {c0 lo hi kk : Nat} {m m' m'' : Me}
theorem Ft.rf : Ft c0 lo hi kk m m := ⟨Fx.rf, fun _ _ _ _ _ _ _ _ => rfl, fun _ _ => ⟨rfl, rfl⟩, fun _ _ _ _ _ => rfl, fun _ _ => ⟨rfl, rfl⟩⟩
theorem Ft.tr (h : Ft c0 lo hi kk m m') (k : Ft c0 lo hi kk m' m'') : Ft c0 lo hi kk m m'' := ⟨h.1.tr k.1, fun x a b c d e f g => (k.2.1 x a b c d e f g).trans (h.2.1 x a b c d e f g), fun j hj => ⟨(k.2.2.1 j hj).1.trans (h.2.2.1 j hj).1, (k.2.2.1 j hj).2.trans (h.2.2.1 j hj).2⟩, fun r j a b c => (k.2.2.2.1 r j a b c).trans (h.2.2.2.1 r j a b c), fun j a => ⟨(k.2.2.2.2 j a).1.trans (h.2.2.2.2 j a).1, (k.2.2.2.2 j a).2.trans (h.2.2.2.2 j a).2⟩⟩
theorem Ft.mn {lo' hi' : Nat} (h : Ft c0 lo hi kk m m') (a : lo' ≤ lo) (b : hi ≤ hi') : Ft c0 lo' hi' kk m m' := ⟨h.1, h.2.1, h.2.2.1, fun r j x y w => h.2.2.2.1 r j x y (by omega), h.2.2.2.2⟩
theorem Fr.ft (h : Fr c0 m m') : Ft c0 lo hi kk m m' := ⟨h.1.mn (fun x a => by omega) (fun _ a => a), fun k a b c d _ e f => h.2.1 k a b c d e f, h.2.2, fun r j a b _ => by rw [h.1.at (by omega)], fun j _ => ⟨by rw [h.1.at (by omega)], by rw [h.1.at (by omega)]⟩⟩
theorem Ft.row {r j : Nat} {v : Int32} (hr : 305 ≤ r ∧ r ≤ 309) (hj : lo ≤ j ∧ j < hi) : Ft c0 lo hi kk m (sI m r (upd (gI m r) j v)) := ⟨Fx.I Fx.rf (by omega), fun k _ _ _ _ _ _ _ => by rw [gI_n (by omega)], fun i _ => ⟨by rw [gI_n (by omega)], by rw [gI_n (by omega)]⟩, fun r' i a b c => by
  by_cases e : r' = r
  · subst e; rw [gI_s, upd_ne (by omega)]
  · rw [gI_n e], fun i _ => ⟨by rw [gI_n (by omega)], by rw [gI_n (by omega)]⟩⟩
theorem Ft.f44 {v : Int32} : Ft c0 lo hi kk m (sI m 274 (upd (gI m 274) 44 v)) := ⟨Fx.I Fx.rf (Or.inl rfl), fun k _ _ _ _ a _ _ => by rw [gI_s, upd_ne a], fun i _ => ⟨by rw [gI_n (by decide)], by rw [gI_n (by decide)]⟩, fun r i a b _ => by rw [gI_n (by omega)], fun i _ => ⟨by rw [gI_n (by decide)], by rw [gI_n (by decide)]⟩⟩
theorem Ft.bnd {r : Nat} {v : Int32} (hr : r = 303 ∨ r = 304) : Ft c0 lo hi kk m (sI m r (upd (gI m r) kk v)) := ⟨Fx.I Fx.rf (by omega), fun k _ _ _ _ _ _ _ => by rw [gI_n (by omega)], fun i _ => ⟨by rw [gI_n (by omega)], by rw [gI_n (by omega)]⟩, fun r' i a b _ => by rw [gI_n (by omega)], fun i hi => by
  rcases hr with rfl | rfl
  · exact ⟨by rw [gI_s, upd_ne hi], by rw [gI_n (by decide)]⟩
  · exact ⟨by rw [gI_n (by decide)], by rw [gI_s, upd_ne hi]⟩⟩
end FTS
section XBT
variable {c0 : Nat} {B : Nat → Nat} {n z : Nat} {m0 m m' : Me} {s s' : Nat × Nat} {W W' : List Nat} {D D' : Cs}
theorem XB.self (h : XB c0 B n z m0 m s W D) : XB c0 B n z m m s W D := ⟨h.1, h.2.1, h.2.2.1, h.2.2.2.1, Fr.rf, h.2.2.2.2.2⟩
/-- a row that it doesn't speak of -/
theorem XB.row {x : Nat} {r : Nat → Int32} (hx : 303 ≤ x ∧ x ≤ 309) (h : XB c0 B n z m0 m s W D) : XB c0 B n z (sI m x r) (sI m x r) s W D := by
  refine ⟨h.1, ⟨h.t.1, h.t.2.1, h.t.2.2.1, fun j hj => ?_⟩, h.g.of (by rw [gI_n (by omega)]) (by rw [gI_n (by omega)]) (by rw [gI_n (by omega)]), ⟨by rw [gI_n (by omega)]; exact h.r.1, fun i c hi => by rw [gI_n (by omega), gI_n (by omega)]; exact h.r.2.1 i c hi, by rw [gI_n (by omega)]; exact h.w, fun i k hi => by rw [gI_n (by omega)]; exact h.r.2.2.2 i k hi⟩, Fr.rf, h.c⟩
  rw [gI_n (by omega), gI_n (by omega), gI_n (by omega)]
  exact h.t.2.2.2 j hj
theorem XB.f44 {v : Int32} (h : XB c0 B n z m0 m s W D) : XB c0 B n z (sI m 274 (upd (gI m 274) 44 v)) (sI m 274 (upd (gI m 274) 44 v)) s W D := ⟨h.1, ⟨h.t.1, h.t.2.1, h.t.2.2.1, fun j hj => by rw [gI_n (by decide), gI_n (by decide), gI_n (by decide)]; exact h.t.2.2.2 j hj⟩, h.g.fld (by decide) (by decide) (by decide), h.r.fld (by decide) (by decide), Fr.rf, h.c⟩
theorem XB.cd (h : XB c0 B n z m0 m s W D) : CdR m c0 D := h.r.2.1
end XBT
set_option maxRecDepth 100000 in
set_option maxHeartbeats 8000000 in
theorem ex_term2 {c0 lo hi kk b : Nat} {B : Nat → Nat} {n z : Nat} {m0 m : Me} {s : Nat × Nat} {W : List Nat} {C : Cs} (hV : ∀ j, kG B n z j = 24 → vG B n z j < 65536) (h : XB c0 B n z m0 m s W C) (hop : s.1 = 0 → gI m 274 12 = nI 0) (hB : s.1 = 0 → C.length ≤ s.2) (hB2 : C.length + W.length ≤ 410) (hb : gI m 274 44 = nI b) (hb2 : b < 260) (hlo : lo ≤ b ∧ b < hi) : Ev mX12_term [.ref 274] m (fun o m' => o = none ∧ ∃ W' D', XB c0 B n z m' m' (gS (kG B n z) s) W' D' ∧ Ft c0 lo hi kk m m' ∧ gI m' 274 44 = nI (b + 1) ∧ gI m' 308 = upd (gI m 308) b (nI (c0 + C.length)) ∧ gI m' 309 = upd (gI m 309) b (nI (c0 + D'.length)) ∧ gI m' 305 = gI m 305 ∧ gI m' 306 = gI m 306 ∧ gI m' 307 = gI m 307 ∧ D'.length + W'.length ≤ 410 ∧ (s.1 ≠ 0 → D' = C) ∧ ∀ q, gS (kG B n z) s = (0, q) → W' = [] ∧ D' = C ++ suC (kG B n z) (vG B n z) s.2 q ∧ gI m' 274 12 = nI 0 ∧ D'.length ≤ q) := by
  refine ⟨plmX12_term, nle rfl, ?_⟩
  have hx := h.x
  have hc := h.c
  by_cases hs0 : s.1 = 0
  · skip
    refine go_aload_n (q := 0) (i := 0) rfl rfl dX12_term_0 ?_
    refine go_getR lf12_119 rfl hx.o hx.r48 dX12_term_1 ?_
    refine go_aload_n (q := 0) (i := 0) rfl rfl dX12_term_4 ?_
    refine go_getI lf12_269 rfl hx.o dX12_term_5 ?_
    rw [hb]
    refine go_aload_n (q := 0) (i := 0) rfl rfl dX12_term_8 ?_
    refine go_getI lf12_272 rfl hx.o dX12_term_9 ?_
    rw [h.r.1]
    refine go_iast (j := b) hx.i48 (by omega) (by first | decide | omega) rfl dX12_term_12 ?_
    have h1 := h.row (x := 308) (r := upd (gI m 308) b (nI (c0 + C.length))) (by decide)
    have t1 : Ft c0 lo hi kk m (sI m 308 (upd (gI m 308) b (nI (c0 + C.length)))) := Ft.row (by decide) hlo
    have b1 : gI (sI m 308 (upd (gI m 308) b (nI (c0 + C.length)))) 274 44 = nI b := by rw [gI_n (by decide)]; exact hb
    have e8 : gI (sI m 308 (upd (gI m 308) b (nI (c0 + C.length)))) 308 = upd (gI m 308) b (nI (c0 + C.length)) := gI_s
    have e9 : gI (sI m 308 (upd (gI m 308) b (nI (c0 + C.length)))) 309 = gI m 309 := gI_n (by decide)
    have e5 : gI (sI m 308 (upd (gI m 308) b (nI (c0 + C.length)))) 305 = gI m 305 := gI_n (by decide)
    have e6 : gI (sI m 308 (upd (gI m 308) b (nI (c0 + C.length)))) 306 = gI m 306 := gI_n (by decide)
    have e7 : gI (sI m 308 (upd (gI m 308) b (nI (c0 + C.length)))) 307 = gI m 307 := gI_n (by decide)
    have o1 : s.1 = 0 → gI (sI m 308 (upd (gI m 308) b (nI (c0 + C.length)))) 274 12 = nI 0 := fun q => by rw [gI_n (by decide)]; exact hop q
    generalize sI m 308 (upd (gI m 308) b (nI (c0 + C.length))) = m1 at h1 t1 b1 e8 e9 e5 e6 e7 o1 ⊢
    have hx := h1.x
    have hs9 := h1.g.2.2.2.1
    refine go_aload_n (q := 0) (i := 0) rfl rfl dX12_term_13 ?_
    refine go_getI lf12_230 rfl hx.o dX12_term_14 ?_
    rw [h1.fa]
    refine gz_ne (by omega) (tgt := 24) dX12_term_17 (by decide) (fun h17 => by exfalso; omega) (fun h17 => ?_)
    refine go_aload_n (q := 0) (i := 0) rfl rfl dX12_term_20 ?_
    refine go_callV okmX12_expression lmX12_338 ⟨nle rfl, nle rfl⟩ hx.o ⟨by decide, rfl⟩ (ex_expr hV h1.self o1 hB (by omega)) npmX12_expression rfl (nle rfl) ⟨nle rfl, nle rfl⟩ dX12_term_21 ?_
    rintro _ m2 ⟨rfl, W2, D2, h2, l2, q2⟩
    have hx := h2.x
    have c2 := h2.f
    have bb : gI m2 274 44 = nI b := (c2.2.1 44 (by decide) (by decide) (by decide) (by decide) (by decide) (by decide)).trans b1
    refine go_c0 ?_
    refine go_aload_n (q := 0) (i := 0) rfl rfl dX12_term_24 ?_
    refine go_getR lf12_122 rfl hx.o hx.r49 dX12_term_25 ?_
    refine go_aload_n (q := 0) (i := 0) rfl rfl dX12_term_28 ?_
    refine go_getI lf12_269 rfl hx.o dX12_term_29 ?_
    rw [bb]
    refine go_aload_n (q := 0) (i := 0) rfl rfl dX12_term_32 ?_
    refine go_getI lf12_272 rfl hx.o dX12_term_33 ?_
    rw [h2.r.1]
    refine go_iast (j := b) hx.i49 (by omega) (by first | decide | omega) rfl dX12_term_36 ?_
    have h3 := h2.row (x := 309) (r := upd (gI m2 309) b (nI (c0 + D2.length))) (by decide)
    have t3 : Ft c0 lo hi kk m2 (sI m2 309 (upd (gI m2 309) b (nI (c0 + D2.length)))) := Ft.row (by decide) hlo
    have b3 : gI (sI m2 309 (upd (gI m2 309) b (nI (c0 + D2.length)))) 274 44 = nI b := by rw [gI_n (by decide)]; exact bb
    have g8 : gI (sI m2 309 (upd (gI m2 309) b (nI (c0 + D2.length)))) 308 = gI m2 308 := gI_n (by decide)
    have g9 : gI (sI m2 309 (upd (gI m2 309) b (nI (c0 + D2.length)))) 309 = upd (gI m2 309) b (nI (c0 + D2.length)) := gI_s
    have g5 : gI (sI m2 309 (upd (gI m2 309) b (nI (c0 + D2.length)))) 305 = gI m2 305 := gI_n (by decide)
    have g6 : gI (sI m2 309 (upd (gI m2 309) b (nI (c0 + D2.length)))) 306 = gI m2 306 := gI_n (by decide)
    have g7 : gI (sI m2 309 (upd (gI m2 309) b (nI (c0 + D2.length)))) 307 = gI m2 307 := gI_n (by decide)
    have o3 : gI (sI m2 309 (upd (gI m2 309) b (nI (c0 + D2.length)))) 274 12 = gI m2 274 12 := by rw [gI_n (by decide)]
    generalize sI m2 309 (upd (gI m2 309) b (nI (c0 + D2.length))) = m3 at h3 t3 b3 g8 g9 g5 g6 g7 o3 ⊢
    have hx := h3.x
    refine go_aload_n (q := 0) (i := 0) rfl rfl dX12_term_37 ?_
    refine go_dup rfl dX12_term_38 ?_
    refine go_getI lf12_269 rfl hx.o dX12_term_39 ?_
    rw [b3]
    refine go_iconst (v := nI 1) (by decide) dX12_term_42 ?_
    refine gn_add dX12_term_43 ?_
    refine go_putI lf12_269 rfl (Or.inl rfl) hx.o dX12_term_44 ?_
    refine go_vret rfl ⟨Nat.zero_le _, Nat.zero_le _⟩ dX12_term_47 ?_
    have h4 := h3.f44 (v := nI (b + 1))
    refine ⟨rfl, W2, D2, h4, (((t1.tr c2.ft).tr t3).tr Ft.f44), by rw [gI_s, upd_same], ?_, ?_, ?_, ?_, ?_, l2, fun q => absurd hs0 q, fun q hq => ?_⟩
    · rw [gI_n (by decide), g8, c2.1.at (by decide), e8]
    · rw [gI_n (by decide), g9, c2.1.at (by decide), e9]
    · rw [gI_n (by decide), g5, c2.1.at (by decide), e5]
    · rw [gI_n (by decide), g6, c2.1.at (by decide), e6]
    · rw [gI_n (by decide), g7, c2.1.at (by decide), e7]
    · obtain ⟨x1, x2, x3, x4⟩ := q2 q hq
      exact ⟨x1, x2, by rw [gI_s, upd_ne (by decide), o3]; exact x3, x4⟩
  · skip
    refine go_aload_n (q := 0) (i := 0) rfl rfl dX12_term_0 ?_
    refine go_getR lf12_119 rfl hx.o hx.r48 dX12_term_1 ?_
    refine go_aload_n (q := 0) (i := 0) rfl rfl dX12_term_4 ?_
    refine go_getI lf12_269 rfl hx.o dX12_term_5 ?_
    rw [hb]
    refine go_aload_n (q := 0) (i := 0) rfl rfl dX12_term_8 ?_
    refine go_getI lf12_272 rfl hx.o dX12_term_9 ?_
    rw [h.r.1]
    refine go_iast (j := b) hx.i48 (by omega) (by first | decide | omega) rfl dX12_term_12 ?_
    have h1 := h.row (x := 308) (r := upd (gI m 308) b (nI (c0 + C.length))) (by decide)
    have t1 : Ft c0 lo hi kk m (sI m 308 (upd (gI m 308) b (nI (c0 + C.length)))) := Ft.row (by decide) hlo
    have b1 : gI (sI m 308 (upd (gI m 308) b (nI (c0 + C.length)))) 274 44 = nI b := by rw [gI_n (by decide)]; exact hb
    have e8 : gI (sI m 308 (upd (gI m 308) b (nI (c0 + C.length)))) 308 = upd (gI m 308) b (nI (c0 + C.length)) := gI_s
    have e9 : gI (sI m 308 (upd (gI m 308) b (nI (c0 + C.length)))) 309 = gI m 309 := gI_n (by decide)
    have e5 : gI (sI m 308 (upd (gI m 308) b (nI (c0 + C.length)))) 305 = gI m 305 := gI_n (by decide)
    have e6 : gI (sI m 308 (upd (gI m 308) b (nI (c0 + C.length)))) 306 = gI m 306 := gI_n (by decide)
    have e7 : gI (sI m 308 (upd (gI m 308) b (nI (c0 + C.length)))) 307 = gI m 307 := gI_n (by decide)
    have o1 : s.1 = 0 → gI (sI m 308 (upd (gI m 308) b (nI (c0 + C.length)))) 274 12 = nI 0 := fun q => by rw [gI_n (by decide)]; exact hop q
    generalize sI m 308 (upd (gI m 308) b (nI (c0 + C.length))) = m1 at h1 t1 b1 e8 e9 e5 e6 e7 o1 ⊢
    have hx := h1.x
    have hs9 := h1.g.2.2.2.1
    refine go_aload_n (q := 0) (i := 0) rfl rfl dX12_term_13 ?_
    refine go_getI lf12_230 rfl hx.o dX12_term_14 ?_
    rw [h1.fa]
    refine gz_ne (by omega) (tgt := 24) dX12_term_17 (by decide) (fun h17 => ?_) (fun h17 => by exfalso; omega)
    have bb := b1
    refine go_aload_n (q := 0) (i := 0) rfl rfl dX12_term_24 ?_
    refine go_getR lf12_122 rfl hx.o hx.r49 dX12_term_25 ?_
    refine go_aload_n (q := 0) (i := 0) rfl rfl dX12_term_28 ?_
    refine go_getI lf12_269 rfl hx.o dX12_term_29 ?_
    rw [bb]
    refine go_aload_n (q := 0) (i := 0) rfl rfl dX12_term_32 ?_
    refine go_getI lf12_272 rfl hx.o dX12_term_33 ?_
    rw [h1.r.1]
    refine go_iast (j := b) hx.i49 (by omega) (by first | decide | omega) rfl dX12_term_36 ?_
    have h3 := h1.row (x := 309) (r := upd (gI m1 309) b (nI (c0 + C.length))) (by decide)
    have t3 : Ft c0 lo hi kk m1 (sI m1 309 (upd (gI m1 309) b (nI (c0 + C.length)))) := Ft.row (by decide) hlo
    have b3 : gI (sI m1 309 (upd (gI m1 309) b (nI (c0 + C.length)))) 274 44 = nI b := by rw [gI_n (by decide)]; exact bb
    have g8 : gI (sI m1 309 (upd (gI m1 309) b (nI (c0 + C.length)))) 308 = gI m1 308 := gI_n (by decide)
    have g9 : gI (sI m1 309 (upd (gI m1 309) b (nI (c0 + C.length)))) 309 = upd (gI m1 309) b (nI (c0 + C.length)) := gI_s
    have g5 : gI (sI m1 309 (upd (gI m1 309) b (nI (c0 + C.length)))) 305 = gI m1 305 := gI_n (by decide)
    have g6 : gI (sI m1 309 (upd (gI m1 309) b (nI (c0 + C.length)))) 306 = gI m1 306 := gI_n (by decide)
    have g7 : gI (sI m1 309 (upd (gI m1 309) b (nI (c0 + C.length)))) 307 = gI m1 307 := gI_n (by decide)
    have o3 : gI (sI m1 309 (upd (gI m1 309) b (nI (c0 + C.length)))) 274 12 = gI m1 274 12 := by rw [gI_n (by decide)]
    generalize sI m1 309 (upd (gI m1 309) b (nI (c0 + C.length))) = m3 at h3 t3 b3 g8 g9 g5 g6 g7 o3 ⊢
    have hx := h3.x
    refine go_aload_n (q := 0) (i := 0) rfl rfl dX12_term_37 ?_
    refine go_dup rfl dX12_term_38 ?_
    refine go_getI lf12_269 rfl hx.o dX12_term_39 ?_
    rw [b3]
    refine go_iconst (v := nI 1) (by decide) dX12_term_42 ?_
    refine gn_add dX12_term_43 ?_
    refine go_putI lf12_269 rfl (Or.inl rfl) hx.o dX12_term_44 ?_
    refine go_vret rfl ⟨Nat.zero_le _, Nat.zero_le _⟩ dX12_term_47 ?_
    have h4 := h3.f44 (v := nI (b + 1))
    have hG : gS (kG B n z) s = s := gSum_f hs0
    refine ⟨rfl, W, C, by rw [hG]; exact h4, ((t1.tr t3).tr Ft.f44), by rw [gI_s, upd_same], ?_, ?_, ?_, ?_, ?_, hB2, fun _ => rfl, fun q hq => ?_⟩
    · rw [gI_n (by decide), g8, e8]
    · rw [gI_n (by decide), g9, e9]
    · rw [gI_n (by decide), g5, e5]
    · rw [gI_n (by decide), g6, e6]
    · rw [gI_n (by decide), g7, e7]
    · rw [hG] at hq
      rw [hq] at hs0
      exact absurd rfl hs0
