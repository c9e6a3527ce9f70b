theorem gTk_z {K : Nat → Nat} {k : Nat} {s : Nat × Nat} (h : (gTk K k s).1 = 0) : s.1 = 0 ∧ K s.2 = k ∧ s.2 < 400 ∧ gTk K k s = (0, s.2 + 1) := by
  obtain ⟨x, p⟩ := s
  by_cases a : x = 0
  · subst a
    rcases gTk_c (K := K) (k := k) (p := p) with ⟨b, c, d⟩ | b
    · exact ⟨rfl, c, d, b⟩
    · exact absurd h b
  · rw [show gTk K k (x, p) = (x, p) from if_pos a] at h
    exact absurd h a
theorem gS_z {K : Nat → Nat} {s : Nat × Nat} (h : (gS K s).1 = 0) : s.1 = 0 := by
  by_cases a : s.1 = 0
  · exact a
  · rw [show gS K s = s from gSum_f a] at h
    exact absurd h a
theorem pr_z {s : Nat × Nat} (h : s.1 = 0) : s = (0, s.2) := by
  obtain ⟨x, p⟩ := s
  exact congrArg (fun y => (y, p)) h
/-- where a sum that begins at a ends -/
abbrev sQ (K : Nat → Nat) (a : Nat) : Nat := (gS K (0, a)).2
def brN (K : Nat → Nat) (a : Nat) : Nat := sQ K (sQ K (sQ K (a + 1) + 1) + 1) + 1
def brP (K V : Nat → Nat) (a : Nat) : Br := (suC K V (a + 1) (sQ K (a + 1)), suC K V (sQ K (a + 1) + 1) (sQ K (sQ K (a + 1) + 1)), suC K V (sQ K (sQ K (a + 1) + 1) + 1) (sQ K (sQ K (sQ K (a + 1) + 1) + 1)))
/-- the branches of a law from a on; where its last term begins -/
def laB (K V : Nat → Nat) : Nat → Nat → List Br × Nat
  | 0, a => ([], a)
  | n + 1, a => if K a = 11 then (brP K V a :: (laB K V n (brN K a)).1, (laB K V n (brN K a)).2) else ([], a)
/-- what stands at an IF that holds -/
def ifO (K : Nat → Nat) (a q1 q2 q3 : Nat) : Prop := K a = 11 ∧ a < 400 ∧ gS K (0, a + 1) = (0, q1) ∧ K q1 = 31 ∧ q1 < 400 ∧ gS K (0, q1 + 1) = (0, q2) ∧ K q2 = 12 ∧ q2 < 400 ∧ gS K (0, q2 + 1) = (0, q3) ∧ K q3 = 13 ∧ q3 < 400
theorem gIf_i {K V : Nat → Nat} {c a : Nat} (h : (gIf K c (0, a)).1 = 0) : c ≤ 4 ∧ ∃ q1 q2 q3, ifO K a q1 q2 q3 ∧ gIf K c (0, a) = (0, q3 + 1) ∧ brN K a = q3 + 1 ∧ brP K V a = (suC K V (a + 1) q1, suC K V (q1 + 1) q2, suC K V (q2 + 1) q3) := by
  unfold gIf at h
  have hc : ¬ 4 < c := fun w => by
    have := (gTk_z (gS_z (gTk_z (gS_z (gTk_z (gS_z (gTk_z h).1)).1)).1)).1
    rw [if_pos w] at this
    exact absurd this (Nat.succ_ne_zero 1)
  rw [if_neg hc] at h
  have e5 := gTk_z (gS_z (gTk_z (gS_z (gTk_z (gS_z (gTk_z h).1)).1)).1)
  have g5 : gTk K 11 (0, a) = (0, a + 1) := e5.2.2.2
  rw [g5] at h
  have e4 := gTk_z (gS_z (gTk_z (gS_z (gTk_z h).1)).1)
  rw [e4.2.2.2] at h
  have e3 := gTk_z (gS_z (gTk_z h).1)
  rw [e3.2.2.2] at h
  have e1 := gTk_z h
  refine ⟨by omega, sQ K (a + 1), sQ K (sQ K (a + 1) + 1), sQ K (sQ K (sQ K (a + 1) + 1) + 1), ⟨e5.2.1, e5.2.2.1, pr_z e4.1, e4.2.1, e4.2.2.1, pr_z e3.1, e3.2.1, e3.2.2.1, pr_z e1.1, e1.2.1, e1.2.2.1⟩, ?_, rfl, rfl⟩
  unfold gIf
  rw [if_neg hc, g5, e4.2.2.2, e3.2.2.2]
  exact e1.2.2.2
theorem gIfs_f {K : Nat → Nat} {n c : Nat} {s : Nat × Nat} (h : s.1 ≠ 0) : gIfs K n c s = s := by
  cases n with
  | zero => rfl
  | succ n => rw [gIfs, if_neg (fun w => h w.1)]
theorem set_mid {α : Type} {x y : α} : ∀ (A B : List α), (A ++ x :: B).set A.length y = A ++ y :: B
  | [], _ => rfl
  | a :: A, B => congrArg (List.cons a) (set_mid A B)
/-- the loop of make, at token a -/
abbrev MkG (la f w : Nat) (Q : Option Value → Me → Prop) (x4 : Int32) (a : Nat) (x6 : Option Value) (m : Me) : Prop := Go mX5_make Q 16 [some (.ref la), some (.ref 3), some (.int (nI f)), some (.int (nI w)), some (.int x4), some (.int (nI a)), x6] [] m 0 0
section MKL
variable {B : Nat → Nat} {n z la f w : Nat} {Q : Option Value → Me → Prop} (hla : 226 ≤ la) (hV : ∀ j, kG B n z j = 24 → vG B n z j < 65536)
theorem mk_seq (hla : 226 ≤ la) (hV : ∀ j, kG B n z j = 24 → vG B n z j < 65536) {x4 : Int32} : ∀ (i a : Nat) (m : Me) (x6 : Option Value) (W : List Nat) (D : Cs), TkX m B n z → Wf10 m.1 (gR m) 3 → Wf5 m.1 (gR m) la → LC m la W D → a + i ≤ 400 → (∀ j, j < i → sT (kG B n z (a + j)) ∧ (eR (kG B n z) (vG B n z) j a (W, D)).1.length ≤ 20) → D.length + W.length + i ≤ 418 → (∀ j ∈ W, j ≤ 35) → (∀ (m1 : Me) (y6 : Option Value), LC m1 la (eR (kG B n z) (vG B n z) i a (W, D)).1 (eR (kG B n z) (vG B n z) i a (W, D)).2 → (eR (kG B n z) (vG B n z) i a (W, D)).2.length + (eR (kG B n z) (vG B n z) i a (W, D)).1.length ≤ D.length + W.length + i → (∀ j ∈ (eR (kG B n z) (vG B n z) i a (W, D)).1, j ≤ 35) → FL la m m1 → MkG la f w Q x4 (a + i) y6 m1) → MkG la f w Q x4 a x6 m
  | 0, a, m, x6, W, D, hT, hw, hl, h, ha, hS, hD, hW, k => k m x6 h (Nat.le_refl _) hW Fx.rf
  | i + 1, a, m, x6, W, D, hT, hw, hl, h, ha, hS, hD, hW, k => by
    obtain ⟨s0, l0⟩ := hS 0 (by omega)
    have l0 : W.length ≤ 20 := l0
    rw [Nat.add_zero] at s0
    have hk31 : kG B n z a ≠ 31 := by unfold sT at s0; omega
    have he : eMk (kG B n z a) (vG B n z a) (W, D) = eTok (kG B n z a) (vG B n z a) (W, D) := if_neg hk31
    have hle := eTok_le (v := vG B n z a) W D (kG_le (B := B) (n := n) (z := z) (j := a)) hW
    refine mk_tok hT hw hl h (by omega) (by omega) hW (by omega) (by unfold sT at s0; omega) (hV a) (fun m1 y6 h1 c1 => ?_)
    rw [he] at h1
    refine mk_seq hla hV i (a + 1) m1 y6 _ _ (c1.tk hla hT) (c1.w3 hw) (c1.wf hl) h1 (by omega) (fun j hj => ?_) (by omega) hle.2 (fun m2 z6 h2 b2 w2 c2 => ?_)
    · have := hS (j + 1) (by omega)
      rw [show a + 1 + j = a + (j + 1) by omega]
      exact this
    · rw [show a + 1 + i = a + (i + 1) by omega]
      exact k m2 z6 h2 (Nat.le_trans b2 (by omega)) w2 (c1.tr c2)
theorem mk_sum (hla : 226 ≤ la) (hV : ∀ j, kG B n z j = 24 → vG B n z j < 65536) {x4 : Int32} {a q : Nat} {m : Me} {x6 : Option Value} {C : Cs} (hT : TkX m B n z) (hw : Wf10 m.1 (gR m) 3) (hl : Wf5 m.1 (gR m) la) (h : LC m la [] C) (ha : a ≤ 400) (hC : C.length ≤ a + 9) (hq : gS (kG B n z) (0, a) = (0, q)) (k : ∀ (m1 : Me) (y6 : Option Value) (W : List Nat) (D : Cs), LC m1 la W D → W.length ≤ 20 → (∀ j ∈ W, j ≤ 35) → D.length + W.length ≤ q + 9 → (eOut 1 W D).1 = [] → (eOut 1 W D).2 = C ++ suC (kG B n z) (vG B n z) a q → FL la m m1 → MkG la f w Q x4 q y6 m1) : MkG la f w Q x4 a x6 m := by
  obtain ⟨h1, h2, h3, h4, h5⟩ := su_ok (V := vG B n z) hV hq ha
  have hap := eR_app (K := kG B n z) (V := vG B n z) C
  have e : ∀ j, eR (kG B n z) (vG B n z) j a ([], C) = ((eR (kG B n z) (vG B n z) j a ([], [])).1, C ++ (eR (kG B n z) (vG B n z) j a ([], [])).2) := fun j => by
    have := hap j a [] []
    rw [List.append_nil] at this
    exact this
  refine mk_seq hla hV (q - a) a m x6 [] C hT hw hl h (by omega) (fun j hj => ?_) (by show C.length + 0 + (q - a) ≤ 418; omega) (fun j hj => by cases hj) (fun m1 y6 g1 g2 g3 c => ?_)
  · rw [e j]
    exact h3 j hj
  · rw [show a + (q - a) = q by omega]
    refine k m1 y6 _ _ g1 ?_ g3 ?_ ?_ (suC_app C) c
    · rw [e (q - a)]
      exact h4.len (by decide)
    · have g2 : _ ≤ C.length + 0 + (q - a) := g2
      omega
    · rw [e (q - a)]
      show (eOut 1 (eR (kG B n z) (vG B n z) (q - a) a ([], [])).1 (C ++ (eR (kG B n z) (vG B n z) (q - a) a ([], [])).2)).1 = []
      rw [eOut_app]
      exact h4.end.1
theorem suC_le {K V : Nat → Nat} {W : List Nat} {D C : Cs} {p q N : Nat} (h : (eOut 1 W D).2 = C ++ suC K V p q) (hb : D.length + W.length ≤ N) : (C ++ suC K V p q).length ≤ N := by
  rw [← h]
  have := eOut_le (r := 1) W D
  omega
/-- one branch -/
theorem mk_if (hla : 226 ≤ la) (hV : ∀ j, kG B n z j = 24 → vG B n z j < 65536) {x4 : Int32} {a q1 q2 q3 : Nat} {m : Me} {x6 : Option Value} {C u v t : Cs} (hT : TkX m B n z) (hw : Wf10 m.1 (gR m) 3) (hl : Wf5 m.1 (gR m) la) (h : LC m la [] C) (hC : C.length ≤ a + 9) (ho : ifO (kG B n z) a q1 q2 q3) (hu : suC (kG B n z) (vG B n z) (a + 1) q1 = u) (hv : suC (kG B n z) (vG B n z) (q1 + 1) q2 = v) (ht : suC (kG B n z) (vG B n z) (q2 + 1) q3 = t) (k : ∀ (m1 : Me) (y4 : Int32) (y6 : Option Value), LC m1 la [] (C ++ (u ++ (v ++ ((6, C.length + u.length + v.length + t.length + 2) :: (t ++ [(7, 0)]))))) → C.length + u.length + v.length + t.length + 2 ≤ q3 + 10 → FL la m m1 → MkG la f w Q y4 (q3 + 1) y6 m1) : MkG la f w Q x4 a x6 m := by
  obtain ⟨k0, a4, s1, k1, p1, s2, k2, p2, s3, k3, p3⟩ := ho
  have x1 := su_ok (V := vG B n z) hV s1 (by omega)
  have x2 := su_ok (V := vG B n z) hV s2 (by omega)
  have x3 := su_ok (V := vG B n z) hV s3 (by omega)
  refine mk_tok hT hw hl h a4 (by decide) (fun j hj => by cases hj) (by show C.length + 0 < 419; omega) (by omega) (hV a) (fun m1 y1 h1 c1 => ?_)
  have h1 : LC m1 la [] C := by
    rw [show eMk (kG B n z a) (vG B n z a) ([], C) = ([], C) by rw [k0]; rfl] at h1
    exact h1
  have hT := c1.tk hla hT
  have hw := c1.w3 hw
  have hl := c1.wf hl
  refine mk_sum hla hV hT hw hl h1 (by omega) (by omega) s1 (fun m2 y2 W2 D2 h2 l2 w2 b2 o2 d2 c2 => ?_)
  have hT := c2.tk hla hT
  have hw := c2.w3 hw
  have hl := c2.wf hl
  have n2 := suC_le d2 b2
  refine mk_tok hT hw hl h2 p1 (by omega) w2 (by omega) (by omega) (hV q1) (fun m3 y3 h3 c3 => ?_)
  rw [show eMk (kG B n z q1) (vG B n z q1) (W2, D2) = eOut 1 W2 D2 from if_pos k1, o2, d2, hu] at h3
  rw [hu] at n2
  have hT := c3.tk hla hT
  have hw := c3.w3 hw
  have hl := c3.wf hl
  refine mk_sum hla hV hT hw hl h3 (by omega) (by omega) s2 (fun m4 y4 W4 D4 h4 l4 w4 b4 o4 d4 c4 => ?_)
  have hT := c4.tk hla hT
  have hw := c4.w3 hw
  have hl := c4.wf hl
  have n4 := suC_le d4 b4
  rw [hv] at n4 d4
  refine mk_then hT hw hl h4 p2 (by omega) w4 (by omega) k2 (fun m5 y5 h5 c5 => ?_)
  rw [o4, d4] at h5
  rw [d4]
  have hT := c5.tk hla hT
  have hw := c5.w3 hw
  have hl := c5.wf hl
  refine mk_sum hla hV hT hw hl h5 (by omega) (by rw [List.length_append]; show _ + 1 ≤ _; omega) s3 (fun m6 y6 W6 D6 h6 l6 w6 b6 o6 d6 c6 => ?_)
  have hT := c6.tk hla hT
  have hw := c6.w3 hw
  have hl := c6.wf hl
  have n6 := suC_le d6 b6
  rw [ht] at n6 d6
  refine mk_else hT hw hl h6 p3 (by omega) w6 (by omega) k3 (j := (C ++ u ++ v).length) rfl (by rw [d6]; simp only [List.length_append, List.length_cons, List.length_nil]; omega) (fun m7 y7 h7 c7 => ?_)
  refine k m7 _ y7 ?_ ?_ ((((((c1.tr c2).tr c3).tr c4).tr c5).tr c6).tr c7)
  · rw [o6, d6] at h7
    have e1 : (C ++ u ++ v ++ [(6, 0)] ++ t : Cs).length + 1 = C.length + u.length + v.length + t.length + 2 := by
      simp only [List.length_append, List.length_cons, List.length_nil]; omega
    have e2 : (C ++ u ++ v ++ [(6, 0)] ++ t ++ [(7, 0)] : Cs).set (C ++ u ++ v).length (6, C.length + u.length + v.length + t.length + 2) = C ++ (u ++ (v ++ ((6, C.length + u.length + v.length + t.length + 2) :: (t ++ [(7, 0)])))) := by
      rw [show (C ++ u ++ v ++ [(6, 0)] ++ t ++ [(7, 0)] : Cs) = (C ++ u ++ v) ++ ((6, 0) :: (t ++ [(7, 0)])) by simp, set_mid]
      simp
    rw [e1, e2] at h7
    exact h7
  · simp only [List.length_append, List.length_cons, List.length_nil] at n6
    omega
/-- all branches -/
theorem mk_ifs (hla : 226 ≤ la) (hV : ∀ j, kG B n z j = 24 → vG B n z j < 65536) {b : Nat} : ∀ (i c a : Nat) (m : Me) (x4 : Int32) (x6 : Option Value) (C : Cs), gIfs (kG B n z) i c (0, a) = (0, b) → 401 ≤ i + a → a ≤ 400 → TkX m B n z → Wf10 m.1 (gR m) 3 → Wf5 m.1 (gR m) la → LC m la [] C → C.length ≤ a + 9 → (∀ (m1 : Me) (y4 : Int32) (y6 : Option Value) (C' : Cs), b ≤ 400 → a ≤ b → kG B n z b ≠ 11 → C'.length ≤ b + 9 → LC m1 la [] C' → (laB (kG B n z) (vG B n z) i a).2 = b → (∀ e, C' ++ (e ++ [(7, 0)]) = C ++ lwK C.length (laB (kG B n z) (vG B n z) i a).1 e) → FL la m m1 → MkG la f w Q y4 b y6 m1) → MkG la f w Q x4 a x6 m
  | 0, c, a, m, x4, x6, C, h, hf, ha, hT, hw, hl, hL, hC, k => by omega
  | i + 1, c, a, m, x4, x6, C, h, hf, ha, hT, hw, hl, hL, hC, k => by
    rw [gIfs] at h
    by_cases e : kG B n z a = 11
    · rw [if_pos ⟨rfl, e⟩] at h
      have hz : (gIf (kG B n z) c (0, a)).1 = 0 := by
        by_cases q : (gIf (kG B n z) c (0, a)).1 = 0
        · exact q
        · rw [gIfs_f q] at h
          rw [h] at q
          exact absurd rfl q
      obtain ⟨c4, q1, q2, q3, ho, e1, e2, e3⟩ := gIf_i (V := vG B n z) hz
      rw [e1] at h
      have p3 := ho.2.2.2.2.2.2.2.2.2.2
      have x1 := su_ok (V := vG B n z) hV ho.2.2.1 (by have := ho.2.1; omega)
      have x2 := su_ok (V := vG B n z) hV ho.2.2.2.2.2.1 (by have := ho.2.2.2.2.1; omega)
      have x3 := su_ok (V := vG B n z) hV ho.2.2.2.2.2.2.2.2.1 (by have := ho.2.2.2.2.2.2.2.1; omega)
      refine mk_if hla hV hT hw hl hL hC ho rfl rfl rfl (fun m1 y4 y6 h1 b1 c1 => ?_)
      refine mk_ifs hla hV i (c + 1) (q3 + 1) m1 y4 y6 _ h (by omega) (by omega) (c1.tk hla hT) (c1.w3 hw) (c1.wf hl) h1 ?_ (fun m2 z4 z6 C' b1 b2 b3 b4 b5 b6 b7 c2 => ?_)
      · simp only [List.length_append, List.length_cons, List.length_nil]
        omega
      · have eL : laB (kG B n z) (vG B n z) (i + 1) a = ((suC (kG B n z) (vG B n z) (a + 1) q1, suC (kG B n z) (vG B n z) (q1 + 1) q2, suC (kG B n z) (vG B n z) (q2 + 1) q3) :: (laB (kG B n z) (vG B n z) i (q3 + 1)).1, (laB (kG B n z) (vG B n z) i (q3 + 1)).2) := by
          rw [laB, if_pos e, e2, e3]
        refine k m2 z4 z6 C' b1 (by omega) b3 b4 b5 (by rw [eL]; exact b6) (fun x => ?_) (c1.tr c2)
        rw [b7 x, eL]
        show _ = C ++ lwK C.length ((suC (kG B n z) (vG B n z) (a + 1) q1, suC (kG B n z) (vG B n z) (q1 + 1) q2, suC (kG B n z) (vG B n z) (q2 + 1) q3) :: (laB (kG B n z) (vG B n z) i (q3 + 1)).1) x
        rw [lwK]
        generalize suC (kG B n z) (vG B n z) (a + 1) q1 = u
        generalize suC (kG B n z) (vG B n z) (q1 + 1) q2 = v
        generalize suC (kG B n z) (vG B n z) (q2 + 1) q3 = t
        rw [show (C ++ (u ++ (v ++ ((6, C.length + u.length + v.length + t.length + 2) :: (t ++ [(7, 0)])))) : Cs).length = C.length + u.length + v.length + t.length + 2 by simp only [List.length_append, List.length_cons, List.length_nil]; omega]
        simp
    · rw [if_neg (fun q => e q.2)] at h
      cases h
      refine k m x4 x6 C ha (Nat.le_refl _) e hC hL ?_ (fun x => ?_) Fx.rf
      · rw [laB, if_neg e]
      · rw [laB, if_neg e]
        rfl
end MKL
/-- a law's parts, from a on -/
def laP (K V : Nat → Nat) (a : Nat) : List Br × Cs := ((laB K V 400 a).1, suC K V (laB K V 400 a).2 (sQ K (laB K V 400 a).2))
/-- the code alone -/
def LD (m : Me) (la : Nat) (D : Cs) : Prop := gI m la 5 = nI D.length ∧ ∀ i c, D[i]? = some c → gI m (la + 1) i = cw c
theorem LC.ld {m : Me} {la : Nat} {W : List Nat} {D : Cs} (h : LC m la W D) : LD m la D := ⟨h.1, h.2.1⟩
theorem LD.lc {m : Me} {la : Nat} {D : Cs} {v : Int32} (h : LD m la D) (hv : v = nI 0) : LC (sI m la (upd (gI m la) 6 v)) la [] D := by
  subst hv
  refine ⟨?_, fun i c hi => ?_, ?_, fun i j hi => by cases hi⟩
  · rw [gI_s, upd_ne (by decide)]; exact h.1
  · rw [gI_n (by omega)]; exact h.2 i c hi
  · rw [gI_s, upd_same]
    rfl
set_option maxRecDepth 100000 in
set_option maxHeartbeats 8000000 in
theorem ev_lmake {m : Me} {B : Nat → Nat} {n z la f w b q : Nat} {D : Cs} (hla : 226 ≤ la) (hV : ∀ j, kG B n z j = 24 → vG B n z j < 65536) (hT : TkX m B n z) (hw : Wf10 m.1 (gR m) 3) (hl : Wf5 m.1 (gR m) la) (h : LD m la D) (hw4 : w < 4) (hf : 0 < f ∧ f ≤ 400) (hD : D.length ≤ f + 9) (hi : gIfs (kG B n z) 400 1 (0, f) = (0, b)) (hs : gS (kG B n z) (0, b) = (0, q)) (hk : kG B n z q = 25) (hq : q < 400) : Ev mX5_make [.ref la, .ref 3, .int (nI f), .int (nI w)] m (fun o m' => o = none ∧ LD m' la (D ++ lwK D.length (laP (kG B n z) (vG B n z) f).1 (laP (kG B n z) (vG B n z) f).2) ∧ Fx (fun x => x = la ∨ x = la + 1 ∨ x = la + 2 ∨ x = la + 5) (fun _ => False) m m' ∧ gI m' (la + 2) = upd (gI m (la + 2)) w (nI D.length)) := by
  refine ⟨plmX5_make, nle rfl, ?_⟩
  refine go_iconst (v := -1) (by decide) dX5_make_0 ?_
  refine go_istore (i := 4) dX5_make_1 (nle rfl) (nle rfl) ?_
  refine go_aload_n (q := 0) (i := 0) rfl rfl dX5_make_3 ?_
  refine go_iconst (v := nI 0) (by decide) dX5_make_4 ?_
  refine go_putI lf5_39 rfl (Or.inl rfl) hl.o dX5_make_5 ?_
  have hw0 := hw
  have hl0 := hl
  generalize hm1 : sI m la (upd (gI m la) 6 (nI 0)) = m1
  have h1 : LC m1 la [] D := by rw [← hm1]; exact h.lc rfl
  have hl : Wf5 m1.1 (gR m1) la := by rw [← hm1]; exact hl
  refine go_aload_n (q := 0) (i := 0) rfl rfl dX5_make_8 ?_
  refine go_iload_n (q := 3) (i := 3) rfl rfl dX5_make_9 ?_
  refine go_callV okmX5_startLaw lmX5_31 ⟨nle rfl, nle rfl⟩ hl.o ⟨by decide, rfl⟩ (ev_lstart hl h1 hw4) npmX5_startLaw rfl (nle rfl) ⟨nle rfl, nle rfl⟩ dX5_make_10 ?_
  rintro _ m2 ⟨rfl, he2⟩
  have h2 : LC m2 la [] D := h1.fr (by rw [he2, gI_n (by omega)]) (by rw [he2, gI_n (by omega)]) (by rw [he2, gI_n (by omega)])
  have e2 : Fx (fun x => x = la ∨ x = la + 1 ∨ x = la + 2 ∨ x = la + 5) (fun _ => False) m m2 := by rw [he2, ← hm1]; exact Fx.I (Fx.I Fx.rf (Or.inl rfl)) (Or.inr (Or.inr (Or.inl rfl)))
  have e3 : gI m2 (la + 2) = upd (gI m (la + 2)) w (nI D.length) := by rw [he2, gI_s, ← hm1, gI_n (by omega)]
  have hT : TkX m2 B n z := hT.keep (by rw [e2.at (by omega)]) (by rw [e2.at (by omega)]) (e2.at (by omega)) (e2.at (by omega)) (by rw [e2.aj (fun a => a)])
  have hw : Wf10 m2.1 (gR m2) 3 := e2.to (F := fun q s => Wf10 q s 3) hw0
  have hl : Wf5 m2.1 (gR m2) la := e2.to (F := fun q s => Wf5 q s la) hl0
  refine go_c0 ?_
  refine go_iload_n (q := 2) (i := 2) rfl rfl dX5_make_13 ?_
  refine go_istore (i := 5) dX5_make_14 (nle rfl) (nle rfl) ?_
  refine mk_ifs hla hV (b := b) 400 1 f m2 _ none D hi (by omega) hf.2 hT hw hl h2 hD (fun m3 y4 y6 C' b1 b2 b3 b4 b5 b6 b7 c3 => ?_)
  have hT := c3.tk hla hT
  have hw := c3.w3 hw
  have hl := c3.wf hl
  refine mk_sum hla hV hT hw hl b5 b1 b4 hs (fun m4 y7 W D' g1 g2 g3 g4 g5 g6 c4 => ?_)
  have hT := c4.tk hla hT
  have hw := c4.w3 hw
  have hl := c4.wf hl
  refine mk_end hT hw hl g1 hq (by omega) g3 (by omega) hk (fun m5 g7 c5 => ?_)
  rw [g5, g6, List.append_assoc, b7] at g7
  have e1 : laP (kG B n z) (vG B n z) f = ((laB (kG B n z) (vG B n z) 400 f).1, suC (kG B n z) (vG B n z) b q) := by
    unfold laP sQ
    rw [b6, hs]
  have c6 := (c3.tr c4).tr c5
  rw [e1]
  refine ⟨rfl, g7.ld, (e2.tr (c6.mn (fun x a => by omega) (fun x a => a))), ?_⟩
  rw [c6.at (by omega), e3]
