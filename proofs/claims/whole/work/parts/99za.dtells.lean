/-! how long a law's code is -/
theorem eR_len {K V : Nat → Nat} (hK : ∀ j, K j ≤ 35) : ∀ (n p : Nat) (W : List Nat) (D : Cs), (∀ k ∈ W, k ≤ 35) → (eR K V n p (W, D)).1.length + (eR K V n p (W, D)).2.length ≤ W.length + D.length + n
  | 0, _, _, _, _ => Nat.le_refl _
  | n + 1, p, W, D, h => by
    have h1 := eTok_le (k := K p) (v := V p) W D (hK p) h
    have h2 := eR_len (V := V) hK n (p + 1) (eTok (K p) (V p) (W, D)).1 (eTok (K p) (V p) (W, D)).2 h1.2
    have h3 := h1.1
    show (eR K V n (p + 1) ((eTok (K p) (V p) (W, D)).1, (eTok (K p) (V p) (W, D)).2)).1.length + (eR K V n (p + 1) ((eTok (K p) (V p) (W, D)).1, (eTok (K p) (V p) (W, D)).2)).2.length ≤ _
    omega
theorem suC_len {K V : Nat → Nat} (hK : ∀ j, K j ≤ 35) (p q : Nat) : (suC K V p q).length ≤ q - p := by
  have h1 := eR_len (V := V) hK (q - p) p [] [] (fun k hk => by cases hk)
  have h2 := (eOut_le (r := 1) (eR K V (q - p) p ([], [])).1 (eR K V (q - p) p ([], [])).2).2.1
  have h3 : ([] : List Nat).length = 0 := rfl
  have h4 : ([] : Cs).length = 0 := rfl
  unfold suC
  omega
theorem lwK_len {u v t : Cs} {bs : List Br} {e : Cs} {s : Nat} : (lwK s ((u, v, t) :: bs) e).length = u.length + v.length + t.length + 2 + (lwK (s + u.length + v.length + t.length + 2) bs e).length := by
  show (u ++ (v ++ (_ :: (t ++ (_ :: _))))).length = _
  simp only [List.length_append, List.length_cons]
  omega
theorem lwK_0 {e : Cs} {s : Nat} : (lwK s [] e).length = e.length + 1 := by
  show (e ++ [_]).length = _
  rw [List.length_append]
  rfl
theorem laB_len {K V : Nat → Nat} (hK : ∀ j, K j ≤ 35) : ∀ (n c a b : Nat), gIfs K n c (0, a) = (0, b) → a ≤ 400 → 401 ≤ n + a → ∀ (s : Nat) (e : Cs), (lwK s (laB K V n a).1 e).length ≤ (b - a) + e.length + 1
  | 0, c, a, b, h, ha, hn, s, e => by omega
  | n + 1, c, a, b, h, ha, hn, s, e => by
    by_cases k : K a = 11
    · rw [gIfs_yes rfl k] at h
      by_cases z : (gIf K c (0, a)).1 = 0
      · obtain ⟨-, q1, q2, q3, ⟨o1, o2, o3, o4, o5, o6, o7, o8, o9, oA, oB⟩, e1, e2, e3⟩ := gIf_i (V := V) z
        rw [e1] at h
        obtain ⟨s1, s2, -⟩ := su_tk o3 (by omega)
        obtain ⟨t1, t2, -⟩ := su_tk o6 (by omega)
        obtain ⟨u1, u2, -⟩ := su_tk o9 (by omega)
        obtain ⟨r1, r2, -⟩ := ifs_tk n (c + 1) (q3 + 1) b h (by omega)
        have l1 := suC_len (V := V) hK (a + 1) q1
        have l2 := suC_len (V := V) hK (q1 + 1) q2
        have l3 := suC_len (V := V) hK (q2 + 1) q3
        rw [laB_11 k, e2, e3]
        show (lwK s ((suC K V (a + 1) q1, suC K V (q1 + 1) q2, suC K V (q2 + 1) q3) :: (laB K V n (q3 + 1)).1) e).length ≤ _
        rw [lwK_len]
        have ih := laB_len (V := V) hK n (c + 1) (q3 + 1) b h (by omega) (by omega) (s + (suC K V (a + 1) q1).length + (suC K V (q1 + 1) q2).length + (suC K V (q2 + 1) q3).length + 2) e
        omega
      · rw [gIfs_f z] at h
        rw [h] at z
        exact absurd rfl z
    · rw [gIfs_no (s := (0, a)) k] at h
      have e1 : a = b := congrArg Prod.snd h
      rw [laB_no k]
      show (lwK s [] e).length ≤ _
      rw [lwK_0]
      omega
theorem la_len {K V : Nat → Nat} {a b q : Nat} (hK : ∀ j, K j ≤ 35) (h : gIfs K 400 1 (0, a) = (0, b)) (h2 : gS K (0, b) = (0, q)) (ha : 1 ≤ a ∧ a ≤ 400) (s : Nat) : (lwK s (laP K V a).1 (laP K V a).2).length ≤ q - a + 1 := by
  have h1 := laB_len (V := V) hK 400 1 a b h ha.2 (by omega) s (laP K V a).2
  obtain ⟨c1, c2, -⟩ := ifs_tk _ _ _ _ h ha.2
  obtain ⟨d1, -, -⟩ := su_tk h2 c2
  have l := suC_len (V := V) hK b q
  have e : (laP K V a).2 = suC K V b q := by
    show suC K V (laB K V 400 a).2 (sQ K (laB K V 400 a).2) = _
    have e1 : (laB K V 400 a).2 = b := by
      have key : ∀ (n c a b : Nat), gIfs K n c (0, a) = (0, b) → a ≤ 400 → 401 ≤ n + a → (laB K V n a).2 = b := by
        intro n
        induction n with
        | zero => intro c a b h ha hn; omega
        | succ n ih =>
          intro c a b h ha hn
          by_cases k : K a = 11
          · rw [gIfs_yes rfl k] at h
            by_cases z : (gIf K c (0, a)).1 = 0
            · obtain ⟨-, q1, q2, q3, ⟨o1, o2, o3, o4, o5, o6, o7, o8, o9, oA, oB⟩, e1, e2, e3⟩ := gIf_i (V := V) z
              rw [e1] at h
              obtain ⟨s1, s2, -⟩ := su_tk o3 (by omega)
              obtain ⟨t1, t2, -⟩ := su_tk o6 (by omega)
              obtain ⟨u1, u2, -⟩ := su_tk o9 (by omega)
              rw [laB_11 k, e2]
              exact ih (c + 1) (q3 + 1) b h (by omega) (by omega)
            · rw [gIfs_f z] at h
              rw [h] at z
              exact absurd rfl z
          · rw [gIfs_no (s := (0, a)) k] at h
            rw [laB_no k]
            exact congrArg Prod.snd h
      exact key 400 1 a b h ha.2 (by omega)
    rw [e1, show sQ K b = q from congrArg Prod.snd h2]
  have e0 : (laP K V a).1 = (laB K V 400 a).1 := rfl
  rw [e] at h1
  rw [e, e0]
  omega
/-- only where the drafter stands is written -/
def SkF (m m' : Me) : Prop := Fx (fun x => x = 10) (fun _ => False) m m' ∧ ∀ k, k ≠ 4 → gI m' 10 k = gI m 10 k
theorem SkF.rf {m : Me} : SkF m m := ⟨Fx.rf, fun _ _ => rfl⟩
theorem SkF.st {m m' : Me} {v : Int32} (c : SkF m m') : SkF m (sI m' 10 (upd (gI m' 10) 4 v)) := ⟨Fx.I c.1 rfl, fun k a => by rw [gI_s, upd_ne a]; exact c.2 k a⟩
theorem SkF.tk {m m' : Me} {B : Nat → Nat} {n z : Nat} (c : SkF m m') (h : TkX m B n z) : TkX m' B n z := h.keep (by rw [c.1.at (by decide)]) (by rw [c.1.at (by decide)]) (c.1.at (by decide)) (c.1.at (by decide)) (by rw [c.1.aj (fun a => a)])
theorem SkF.w3 {m m' : Me} (c : SkF m m') (h : Wf10 m.1 (gR m) 3) : Wf10 m'.1 (gR m') 3 := c.1.to (F := fun q s => Wf10 q s 3) h
theorem SkF.w0 {m m' : Me} (c : SkF m m') (h : Wf0 m.1 (gR m) 10) : Wf0 m'.1 (gR m') 10 := c.1.to (F := fun q s => Wf0 q s 10) h
theorem SkF.w7 {m m' : Me} {dr : Nat} (c : SkF m m') (h : Wf7 m.1 (gR m) dr) : Wf7 m'.1 (gR m') dr := c.1.to (F := fun q s => Wf7 q s dr) h
theorem DrC.sk {m m' : Me} {dr b : Nat} {D : Dr} (h : DrC m dr D b) (hdr : 226 ≤ dr) (c : SkF m m') : DrC m' dr D b := by
  have e : ∀ x, x ≠ 10 → gI m' x = gI m x := fun x q => c.1.at q
  have j : ∀ x, gJ m' x = gJ m x := fun x => c.1.aj (fun a => a)
  obtain ⟨h1, h2, h3, h4, h5, h6, h7, h8⟩ := h
  refine ⟨?_, ?_, ?_, ?_, ?_, ?_, ?_, h8.of (e _ (by omega)) (e _ (by omega)) (e _ (by omega)) rfl⟩
  · rw [e dr (by omega)]; exact h1
  · rw [e _ (by omega)]; exact h2
  · rw [e _ (by omega)]; exact h3
  · rw [e _ (by omega), e _ (by omega)]; exact h4
  · rw [e _ (by omega), e _ (by omega), e _ (by omega), e _ (by omega)]; exact h5
  · unfold NmC; rw [j, j]; exact h6
  · rw [c.2 2 (by decide), c.2 3 (by decide)]; exact h7
set_option maxRecDepth 100000 in
set_option maxHeartbeats 8000000 in
theorem ev_skipTell {m : Me} {B : Nat → Nat} {n z p r : Nat} (hT : TkX m B n z) (hw : Wf10 m.1 (gR m) 3) (hd : Wf0 m.1 (gR m) 10) (hat : gI m 10 4 = nI p) (hpr : p + 2 < r) (hr : r ≤ 400) (hs : kG B n z (r - 1) = 25) (hne : noE (kG B n z) p (r - 1)) : Ev mX0_skipTell [.ref 10, .ref 3] m (fun o m' => o = none ∧ gI m' 10 4 = nI r ∧ SkF m m') := by
  refine ⟨plmX0_skipTell, nle rfl, ?_⟩
  have key : ∀ i, i ≤ r - 1 - p → ∀ (m1 : Me), gI m1 10 4 = nI (p + i) → SkF m m1 → Go mX0_skipTell (fun o m' => o = none ∧ gI m' 10 4 = nI r ∧ SkF m m') 2 [some (.ref 10), some (.ref 3), some (.int (nI i))] [] m1 0 0 := by
    refine loop_up (r - 1 - p) ?_ ?_
    · intro m1 h4 c
      have hT := c.tk hT
      have hw := c.w3 hw
      have hd := c.w0 hd
      have hk : kG B n z (p + (r - 1 - p)) = 25 := by rw [show p + (r - 1 - p) = r - 1 by omega]; exact hs
      refine go_iload_n (q := 2) (i := 2) rfl rfl dX0_skipTell_2 ?_
      refine go_sipush (v := nI 400) (by decide) dX0_skipTell_3 ?_
      refine gn_ge (by omega) (by omega) (tgt := 51) dX0_skipTell_6 (by decide) (fun h6 => by exfalso; omega) (fun h6 => ?_)
      refine go_aload_n (q := 1) (i := 1) rfl rfl dX0_skipTell_9 ?_
      refine go_aload_n (q := 0) (i := 0) rfl rfl dX0_skipTell_10 ?_
      refine go_getI lf0_30 rfl hd.o dX0_skipTell_11 ?_
      rw [h4]
      refine go_callV okmX10_kindAt lmX0_38 ⟨nle rfl, nle rfl⟩ hw.o ⟨by decide, rfl⟩ (ev_tk hT hw (by omega)) npmX10_kindAt rfl (nle rfl) ⟨nle rfl, nle rfl⟩ dX0_skipTell_14 ?_
      rintro _ mz ⟨rfl, hz⟩
      subst mz
      refine go_c1 ?_
      refine go_bipush (v := nI 34) (by decide) dX0_skipTell_17 ?_
      refine gn_ge (by omega) (by omega) (tgt := 51) dX0_skipTell_19 (by decide) (fun h19 => by exfalso; omega) (fun h19 => ?_)
      refine go_aload_n (q := 1) (i := 1) rfl rfl dX0_skipTell_22 ?_
      refine go_aload_n (q := 0) (i := 0) rfl rfl dX0_skipTell_23 ?_
      refine go_getI lf0_30 rfl hd.o dX0_skipTell_24 ?_
      rw [h4]
      refine go_callV okmX10_kindAt lmX0_38 ⟨nle rfl, nle rfl⟩ hw.o ⟨by decide, rfl⟩ (ev_tk hT hw (by omega)) npmX10_kindAt rfl (nle rfl) ⟨nle rfl, nle rfl⟩ dX0_skipTell_27 ?_
      rintro _ mz ⟨rfl, hz⟩
      subst mz
      refine go_c1 ?_
      refine go_bipush (v := nI 25) (by decide) dX0_skipTell_30 ?_
      refine gn_eq (by omega) (by omega) (tgt := 51) dX0_skipTell_32 (by decide) (fun h32 => ?_) (fun h32 => by exfalso; omega)
      refine go_aload_n (q := 0) (i := 0) rfl rfl dX0_skipTell_51 ?_
      refine go_dup rfl dX0_skipTell_52 ?_
      refine go_getI lf0_30 rfl hd.o dX0_skipTell_53 ?_
      rw [h4]
      refine go_iconst (v := nI 1) (by decide) dX0_skipTell_56 ?_
      refine gn_add dX0_skipTell_57 ?_
      refine go_putI lf0_30 rfl (Or.inl rfl) hd.o dX0_skipTell_58 ?_
      refine go_vret rfl ⟨Nat.zero_le _, Nat.zero_le _⟩ dX0_skipTell_61 ?_
      refine ⟨rfl, ?_, c.st⟩
      rw [gI_s, upd_same, show p + (r - 1 - p) + 1 = r by omega]
    · intro i hi ih m1 h4 c
      have hT := c.tk hT
      have hw := c.w3 hw
      have hd := c.w0 hd
      have hk := hne (p + i) (by omega) (by omega)
      refine go_iload_n (q := 2) (i := 2) rfl rfl dX0_skipTell_2 ?_
      refine go_sipush (v := nI 400) (by decide) dX0_skipTell_3 ?_
      refine gn_ge (by omega) (by omega) (tgt := 51) dX0_skipTell_6 (by decide) (fun h6 => by exfalso; omega) (fun h6 => ?_)
      refine go_aload_n (q := 1) (i := 1) rfl rfl dX0_skipTell_9 ?_
      refine go_aload_n (q := 0) (i := 0) rfl rfl dX0_skipTell_10 ?_
      refine go_getI lf0_30 rfl hd.o dX0_skipTell_11 ?_
      rw [h4]
      refine go_callV okmX10_kindAt lmX0_38 ⟨nle rfl, nle rfl⟩ hw.o ⟨by decide, rfl⟩ (ev_tk hT hw (by omega)) npmX10_kindAt rfl (nle rfl) ⟨nle rfl, nle rfl⟩ dX0_skipTell_14 ?_
      rintro _ mz ⟨rfl, hz⟩
      subst mz
      refine go_c1 ?_
      refine go_bipush (v := nI 34) (by decide) dX0_skipTell_17 ?_
      refine gn_ge (by omega) (by omega) (tgt := 51) dX0_skipTell_19 (by decide) (fun h19 => by exfalso; omega) (fun h19 => ?_)
      refine go_aload_n (q := 1) (i := 1) rfl rfl dX0_skipTell_22 ?_
      refine go_aload_n (q := 0) (i := 0) rfl rfl dX0_skipTell_23 ?_
      refine go_getI lf0_30 rfl hd.o dX0_skipTell_24 ?_
      rw [h4]
      refine go_callV okmX10_kindAt lmX0_38 ⟨nle rfl, nle rfl⟩ hw.o ⟨by decide, rfl⟩ (ev_tk hT hw (by omega)) npmX10_kindAt rfl (nle rfl) ⟨nle rfl, nle rfl⟩ dX0_skipTell_27 ?_
      rintro _ mz ⟨rfl, hz⟩
      subst mz
      refine go_c1 ?_
      refine go_bipush (v := nI 25) (by decide) dX0_skipTell_30 ?_
      refine gn_eq (by omega) (by omega) (tgt := 51) dX0_skipTell_32 (by decide) (fun h32 => by exfalso; omega) (fun h32 => ?_)
      refine go_aload_n (q := 0) (i := 0) rfl rfl dX0_skipTell_35 ?_
      refine go_dup rfl dX0_skipTell_36 ?_
      refine go_getI lf0_30 rfl hd.o dX0_skipTell_37 ?_
      rw [h4]
      refine go_iconst (v := nI 1) (by decide) dX0_skipTell_40 ?_
      refine gn_add dX0_skipTell_41 ?_
      refine go_putI lf0_30 rfl (Or.inl rfl) hd.o dX0_skipTell_42 ?_
      refine gn_inc (i := 2) (a := i) (q := 1) rfl dX0_skipTell_45 (nle rfl) rfl ?_
      refine go_goto (tgt := 2) dX0_skipTell_48 (by decide) ?_
      refine ih _ ?_ c.st
      rw [gI_s, upd_same, Nat.add_assoc]
  refine go_iconst (v := nI 0) (by decide) dX0_skipTell_0 ?_
  refine go_istore_n (q := 2) (i := 2) rfl dX0_skipTell_1 (nle rfl) (nle rfl) ?_
  exact key 0 (Nat.zero_le _) m hat SkF.rf
set_option maxRecDepth 100000 in
set_option maxHeartbeats 8000000 in
theorem ev_fillTell {m : Me} {B : Nat → Nat} {n z dr p k r : Nat} {c : Nat → Nat} {w : Nat × Nat} {D : Dr} (hT : TkX m B n z) (hw : Wf10 m.1 (gR m) 3) (hd : Wf0 m.1 (gR m) 10) (hp : Wf7 m.1 (gR m) dr) (hdr : dr = 226 ∨ dr = 241) (hf : FT m B n z w) (hC : DrC m dr D (p + 10)) (hat : gI m 10 4 = nI p) (hp4 : p < 400) (hV : ∀ j, kG B n z j = 24 → vG B n z j < 65536) (hnm : ∀ j, kG B n z j = 23 → NmO (tL B n j)) (hte : teO (kG B n z) c k p r) (hcn : CnW c D) (hD : DrO D) : Ev mX0_fillTell [.ref 10, .ref dr, .ref 3, .int (nI k)] m (fun o m' => o = none ∧ FT m' B n z (teW (vG B n z) (tL B n) k p D w) ∧ ((teW (vG B n z) (tL B n) k p D w).1 = 0 → DrC m' dr (teD (kG B n z) (vG B n z) (tL B n) k p D) (r + 10)) ∧ FD dr m m') := by
  refine ⟨plmX0_fillTell, nle rfl, ?_⟩
  have fd : FD dr m m := FD.rf
  have hn24 := hC.2.2.2.2.2.1.1
  have hn36 := hC.2.2.2.2.2.1.2.1
  obtain ⟨x0, x1, x2, x3, x4, y0, y1, y2, y3⟩ := id hcn
  obtain ⟨-, hr4, ⟨rfl, cc, e1, -, er⟩ | ⟨rfl, cc, e1, e2, e3, -, er⟩ | ⟨rfl, cc, e1, e2, e3, e4, e5, -, er⟩ | ⟨rfl, cc, e1, e2, e3, -, er⟩ | ⟨⟨k4, k7⟩, e1, hp1, x, q, e2, e3, e4, e5, er⟩ | ⟨k8, e1, -, er⟩⟩ := hte
  · skip
    refine go_iload_n (q := 3) (i := 3) rfl rfl dX0_fillTell_0 ?_
    refine go_tswIn (off := 59) (tgt := 60) dX0_fillTell_1 (by decide) (by decide) (by decide) (by decide) ?_
    refine go_aload_n (q := 0) (i := 0) rfl rfl dX0_fillTell_60 ?_
    refine go_aload_n (q := 1) (i := 1) rfl rfl dX0_fillTell_61 ?_
    refine go_aload_n (q := 2) (i := 2) rfl rfl dX0_fillTell_62 ?_
    refine go_callV okmX0_fillRow lmX0_67 ⟨nle rfl, nle rfl⟩ hd.o ⟨by decide, rfl⟩ (ev_fillRow hT hw hd hp hdr hf hC hat hp4 e1 (hnm _ e1) (by omega) hcn.1 hD.2.1) npmX0_fillRow rfl (nle rfl) ⟨nle rfl, nle rfl⟩ dX0_fillTell_63 ?_
    rintro _ m1 ⟨rfl, a1, a2, a3⟩
    refine go_c0 ?_
    refine go_goto (tgt := 177) dX0_fillTell_66 (by decide) ?_
    refine go_vret rfl ⟨Nat.zero_le _, Nat.zero_le _⟩ dX0_fillTell_177 ?_
    exact ⟨rfl, a1, fun q => (a2 q).mn (by omega), a3⟩
  · skip
    refine go_iload_n (q := 3) (i := 3) rfl rfl dX0_fillTell_0 ?_
    refine go_tswIn (off := 68) (tgt := 69) dX0_fillTell_1 (by decide) (by decide) (by decide) (by decide) ?_
    refine go_aload_n (q := 0) (i := 0) rfl rfl dX0_fillTell_69 ?_
    refine go_aload_n (q := 1) (i := 1) rfl rfl dX0_fillTell_70 ?_
    refine go_aload_n (q := 2) (i := 2) rfl rfl dX0_fillTell_71 ?_
    refine go_callV okmX0_fillHolding lmX0_71 ⟨nle rfl, nle rfl⟩ hd.o ⟨by decide, rfl⟩ (ev_fillHolding hT hw hd hp hdr hf hC hat hp4 hV hnm e1 e2 e3 (by omega)) npmX0_fillHolding rfl (nle rfl) ⟨nle rfl, nle rfl⟩ dX0_fillTell_72 ?_
    rintro _ m1 ⟨rfl, a1, a2, a3⟩
    refine go_c0 ?_
    refine go_goto (tgt := 177) dX0_fillTell_75 (by decide) ?_
    refine go_vret rfl ⟨Nat.zero_le _, Nat.zero_le _⟩ dX0_fillTell_177 ?_
    exact ⟨rfl, a1, fun q => (a2 q).mn (by omega), a3⟩
  · skip
    refine go_iload_n (q := 3) (i := 3) rfl rfl dX0_fillTell_0 ?_
    refine go_tswIn (off := 77) (tgt := 78) dX0_fillTell_1 (by decide) (by decide) (by decide) (by decide) ?_
    refine go_aload_n (q := 0) (i := 0) rfl rfl dX0_fillTell_78 ?_
    refine go_aload_n (q := 1) (i := 1) rfl rfl dX0_fillTell_79 ?_
    refine go_aload_n (q := 2) (i := 2) rfl rfl dX0_fillTell_80 ?_
    refine go_callV okmX0_fillUse lmX0_74 ⟨nle rfl, nle rfl⟩ hd.o ⟨by decide, rfl⟩ (ev_fillUse hT hw hd hp hdr hf hC hat hp4 hV hnm e1 e2 e3 e4 e5 (by omega)) npmX0_fillUse rfl (nle rfl) ⟨nle rfl, nle rfl⟩ dX0_fillTell_81 ?_
    rintro _ m1 ⟨rfl, a1, a2, a3⟩
    refine go_c0 ?_
    refine go_goto (tgt := 177) dX0_fillTell_84 (by decide) ?_
    refine go_vret rfl ⟨Nat.zero_le _, Nat.zero_le _⟩ dX0_fillTell_177 ?_
    exact ⟨rfl, a1, fun q => (a2 q).mn (by omega), a3⟩
  · skip
    refine go_iload_n (q := 3) (i := 3) rfl rfl dX0_fillTell_0 ?_
    refine go_tswIn (off := 86) (tgt := 87) dX0_fillTell_1 (by decide) (by decide) (by decide) (by decide) ?_
    refine go_aload_n (q := 0) (i := 0) rfl rfl dX0_fillTell_87 ?_
    refine go_aload_n (q := 1) (i := 1) rfl rfl dX0_fillTell_88 ?_
    refine go_aload_n (q := 2) (i := 2) rfl rfl dX0_fillTell_89 ?_
    refine go_callV okmX0_fillBank lmX0_77 ⟨nle rfl, nle rfl⟩ hd.o ⟨by decide, rfl⟩ (ev_fillBank hT hw hd hp hdr hf hC hat hp4 hV hnm e1 e2 e3 (by omega) (fun i hi => ⟨(hD.2.2.2.2.2.2.1 i hi).1, (hD.2.2.2.2.2.2.1 i hi).2.1⟩)) npmX0_fillBank rfl (nle rfl) ⟨nle rfl, nle rfl⟩ dX0_fillTell_90 ?_
    rintro _ m1 ⟨rfl, a1, a2, a3⟩
    refine go_c0 ?_
    refine go_goto (tgt := 177) dX0_fillTell_93 (by decide) ?_
    refine go_vret rfl ⟨Nat.zero_le _, Nat.zero_le _⟩ dX0_fillTell_177 ?_
    exact ⟨rfl, a1, fun q => (a2 q).mn (by omega), a3⟩
  · skip
    obtain ⟨C, c1, c2, c3⟩ := hC.2.2.2.2.2.2.2
    rcases (show k = 4 ∨ k = 5 ∨ k = 6 ∨ k = 7 by omega) with rfl | rfl | rfl | rfl
    · skip
      refine go_iload_n (q := 3) (i := 3) rfl rfl dX0_fillTell_0 ?_
      refine go_tswIn (off := 159) (tgt := 160) dX0_fillTell_1 (by decide) (by decide) (by decide) (by decide) ?_
      refine go_aload_n (q := 1) (i := 1) rfl rfl dX0_fillTell_160 ?_
      refine go_getR lf0_93 rfl hp.o hp.r16 dX0_fillTell_161 ?_
      refine go_aload_n (q := 2) (i := 2) rfl rfl dX0_fillTell_164 ?_
      refine go_aload_n (q := 0) (i := 0) rfl rfl dX0_fillTell_165 ?_
      refine go_getI lf0_30 rfl hd.o dX0_fillTell_166 ?_
      rw [hat]
      refine go_iconst (v := nI 2) (by decide) dX0_fillTell_169 ?_
      refine gn_add dX0_fillTell_170 ?_
      refine go_iload_n (q := 3) (i := 3) rfl rfl dX0_fillTell_171 ?_
      refine go_iconst (v := nI 4) (by decide) dX0_fillTell_172 ?_
      refine gn_sub (by omega) dX0_fillTell_173 ?_
      refine go_callV okmX5_make lmX0_97 ⟨nle rfl, nle rfl⟩ hp.w16.o ⟨by decide, rfl⟩ (ev_lmake (f := p + 2) (w := 0) (b := x) (q := q) (by omega) hV hT hw hp.w16 c1 (by decide) ⟨by omega, by omega⟩ (by omega) e2 e3 e4 e5) npmX5_make rfl (nle rfl) ⟨nle rfl, nle rfl⟩ dX0_fillTell_174 ?_
      rintro _ m1 ⟨rfl, l1, l2, l3⟩
      have ll := la_len (K := kG B n z) (V := vG B n z) (fun _ => kG_le) e2 e3 ⟨by omega, by omega⟩ C.length
      have hq2 := (su_tk e3 (ifs_tk _ _ _ _ e2 (by omega)).2.1).1
      have hx2 := (ifs_tk _ _ _ _ e2 (by omega)).1
      refine go_c0 ?_
      refine go_vret rfl ⟨Nat.zero_le _, Nat.zero_le _⟩ dX0_fillTell_177 ?_
      refine ⟨rfl, FT.of hf (l2.at (by omega)), fun _ => ?_, l2.mn (fun x a => by omega) (fun x a => a.elim), fun k _ _ => by rw [l2.at (by omega)], by rw [l2.at (by omega)]⟩
      exact hC.lw (k := 0) (C := C) (x := laP (kG B n z) (vG B n z) (p + 2)) (by omega) c2 c3 l1 (by rw [List.length_append]; omega) l3 (by omega) (fun y hy => l2.at (by omega)) (fun y => l2.aj (fun a => a))
    · skip
      refine go_iload_n (q := 3) (i := 3) rfl rfl dX0_fillTell_0 ?_
      refine go_tswIn (off := 159) (tgt := 160) dX0_fillTell_1 (by decide) (by decide) (by decide) (by decide) ?_
      refine go_aload_n (q := 1) (i := 1) rfl rfl dX0_fillTell_160 ?_
      refine go_getR lf0_93 rfl hp.o hp.r16 dX0_fillTell_161 ?_
      refine go_aload_n (q := 2) (i := 2) rfl rfl dX0_fillTell_164 ?_
      refine go_aload_n (q := 0) (i := 0) rfl rfl dX0_fillTell_165 ?_
      refine go_getI lf0_30 rfl hd.o dX0_fillTell_166 ?_
      rw [hat]
      refine go_iconst (v := nI 2) (by decide) dX0_fillTell_169 ?_
      refine gn_add dX0_fillTell_170 ?_
      refine go_iload_n (q := 3) (i := 3) rfl rfl dX0_fillTell_171 ?_
      refine go_iconst (v := nI 4) (by decide) dX0_fillTell_172 ?_
      refine gn_sub (by omega) dX0_fillTell_173 ?_
      refine go_callV okmX5_make lmX0_97 ⟨nle rfl, nle rfl⟩ hp.w16.o ⟨by decide, rfl⟩ (ev_lmake (f := p + 2) (w := 1) (b := x) (q := q) (by omega) hV hT hw hp.w16 c1 (by decide) ⟨by omega, by omega⟩ (by omega) e2 e3 e4 e5) npmX5_make rfl (nle rfl) ⟨nle rfl, nle rfl⟩ dX0_fillTell_174 ?_
      rintro _ m1 ⟨rfl, l1, l2, l3⟩
      have ll := la_len (K := kG B n z) (V := vG B n z) (fun _ => kG_le) e2 e3 ⟨by omega, by omega⟩ C.length
      have hq2 := (su_tk e3 (ifs_tk _ _ _ _ e2 (by omega)).2.1).1
      have hx2 := (ifs_tk _ _ _ _ e2 (by omega)).1
      refine go_c0 ?_
      refine go_vret rfl ⟨Nat.zero_le _, Nat.zero_le _⟩ dX0_fillTell_177 ?_
      refine ⟨rfl, FT.of hf (l2.at (by omega)), fun _ => ?_, l2.mn (fun x a => by omega) (fun x a => a.elim), fun k _ _ => by rw [l2.at (by omega)], by rw [l2.at (by omega)]⟩
      exact hC.lw (k := 1) (C := C) (x := laP (kG B n z) (vG B n z) (p + 2)) (by omega) c2 c3 l1 (by rw [List.length_append]; omega) l3 (by omega) (fun y hy => l2.at (by omega)) (fun y => l2.aj (fun a => a))
    · skip
      refine go_iload_n (q := 3) (i := 3) rfl rfl dX0_fillTell_0 ?_
      refine go_tswIn (off := 159) (tgt := 160) dX0_fillTell_1 (by decide) (by decide) (by decide) (by decide) ?_
      refine go_aload_n (q := 1) (i := 1) rfl rfl dX0_fillTell_160 ?_
      refine go_getR lf0_93 rfl hp.o hp.r16 dX0_fillTell_161 ?_
      refine go_aload_n (q := 2) (i := 2) rfl rfl dX0_fillTell_164 ?_
      refine go_aload_n (q := 0) (i := 0) rfl rfl dX0_fillTell_165 ?_
      refine go_getI lf0_30 rfl hd.o dX0_fillTell_166 ?_
      rw [hat]
      refine go_iconst (v := nI 2) (by decide) dX0_fillTell_169 ?_
      refine gn_add dX0_fillTell_170 ?_
      refine go_iload_n (q := 3) (i := 3) rfl rfl dX0_fillTell_171 ?_
      refine go_iconst (v := nI 4) (by decide) dX0_fillTell_172 ?_
      refine gn_sub (by omega) dX0_fillTell_173 ?_
      refine go_callV okmX5_make lmX0_97 ⟨nle rfl, nle rfl⟩ hp.w16.o ⟨by decide, rfl⟩ (ev_lmake (f := p + 2) (w := 2) (b := x) (q := q) (by omega) hV hT hw hp.w16 c1 (by decide) ⟨by omega, by omega⟩ (by omega) e2 e3 e4 e5) npmX5_make rfl (nle rfl) ⟨nle rfl, nle rfl⟩ dX0_fillTell_174 ?_
      rintro _ m1 ⟨rfl, l1, l2, l3⟩
      have ll := la_len (K := kG B n z) (V := vG B n z) (fun _ => kG_le) e2 e3 ⟨by omega, by omega⟩ C.length
      have hq2 := (su_tk e3 (ifs_tk _ _ _ _ e2 (by omega)).2.1).1
      have hx2 := (ifs_tk _ _ _ _ e2 (by omega)).1
      refine go_c0 ?_
      refine go_vret rfl ⟨Nat.zero_le _, Nat.zero_le _⟩ dX0_fillTell_177 ?_
      refine ⟨rfl, FT.of hf (l2.at (by omega)), fun _ => ?_, l2.mn (fun x a => by omega) (fun x a => a.elim), fun k _ _ => by rw [l2.at (by omega)], by rw [l2.at (by omega)]⟩
      exact hC.lw (k := 2) (C := C) (x := laP (kG B n z) (vG B n z) (p + 2)) (by omega) c2 c3 l1 (by rw [List.length_append]; omega) l3 (by omega) (fun y hy => l2.at (by omega)) (fun y => l2.aj (fun a => a))
    · skip
      refine go_iload_n (q := 3) (i := 3) rfl rfl dX0_fillTell_0 ?_
      refine go_tswIn (off := 159) (tgt := 160) dX0_fillTell_1 (by decide) (by decide) (by decide) (by decide) ?_
      refine go_aload_n (q := 1) (i := 1) rfl rfl dX0_fillTell_160 ?_
      refine go_getR lf0_93 rfl hp.o hp.r16 dX0_fillTell_161 ?_
      refine go_aload_n (q := 2) (i := 2) rfl rfl dX0_fillTell_164 ?_
      refine go_aload_n (q := 0) (i := 0) rfl rfl dX0_fillTell_165 ?_
      refine go_getI lf0_30 rfl hd.o dX0_fillTell_166 ?_
      rw [hat]
      refine go_iconst (v := nI 2) (by decide) dX0_fillTell_169 ?_
      refine gn_add dX0_fillTell_170 ?_
      refine go_iload_n (q := 3) (i := 3) rfl rfl dX0_fillTell_171 ?_
      refine go_iconst (v := nI 4) (by decide) dX0_fillTell_172 ?_
      refine gn_sub (by omega) dX0_fillTell_173 ?_
      refine go_callV okmX5_make lmX0_97 ⟨nle rfl, nle rfl⟩ hp.w16.o ⟨by decide, rfl⟩ (ev_lmake (f := p + 2) (w := 3) (b := x) (q := q) (by omega) hV hT hw hp.w16 c1 (by decide) ⟨by omega, by omega⟩ (by omega) e2 e3 e4 e5) npmX5_make rfl (nle rfl) ⟨nle rfl, nle rfl⟩ dX0_fillTell_174 ?_
      rintro _ m1 ⟨rfl, l1, l2, l3⟩
      have ll := la_len (K := kG B n z) (V := vG B n z) (fun _ => kG_le) e2 e3 ⟨by omega, by omega⟩ C.length
      have hq2 := (su_tk e3 (ifs_tk _ _ _ _ e2 (by omega)).2.1).1
      have hx2 := (ifs_tk _ _ _ _ e2 (by omega)).1
      refine go_c0 ?_
      refine go_vret rfl ⟨Nat.zero_le _, Nat.zero_le _⟩ dX0_fillTell_177 ?_
      refine ⟨rfl, FT.of hf (l2.at (by omega)), fun _ => ?_, l2.mn (fun x a => by omega) (fun x a => a.elim), fun k _ _ => by rw [l2.at (by omega)], by rw [l2.at (by omega)]⟩
      exact hC.lw (k := 3) (C := C) (x := laP (kG B n z) (vG B n z) (p + 2)) (by omega) c2 c3 l1 (by rw [List.length_append]; omega) l3 (by omega) (fun y hy => l2.at (by omega)) (fun y => l2.aj (fun a => a))
  · skip
    rcases k8 with rfl | rfl | rfl
    · skip
      refine go_iload_n (q := 3) (i := 3) rfl rfl dX0_fillTell_0 ?_
      refine go_tswIn (off := 95) (tgt := 96) dX0_fillTell_1 (by decide) (by decide) (by decide) (by decide) ?_
      refine go_aload_n (q := 1) (i := 1) rfl rfl dX0_fillTell_96 ?_
      refine go_aload_n (q := 0) (i := 0) rfl rfl dX0_fillTell_97 ?_
      refine go_aload_n (q := 2) (i := 2) rfl rfl dX0_fillTell_98 ?_
      refine go_aload_n (q := 0) (i := 0) rfl rfl dX0_fillTell_99 ?_
      refine go_getI lf0_30 rfl hd.o dX0_fillTell_100 ?_
      rw [hat]
      refine go_iconst (v := nI 1) (by decide) dX0_fillTell_103 ?_
      refine gn_add dX0_fillTell_104 ?_
      refine go_iconst (v := nI 0) (by decide) dX0_fillTell_105 ?_
      refine go_bipush (v := nI 100) (by decide) dX0_fillTell_106 ?_
      refine go_callV okmX0_number lmX0_80 ⟨nle rfl, nle rfl⟩ hd.o ⟨by decide, rfl⟩ (ev_number (a := 0) (b := 100) hT hw hf (by omega) e1 (hV _ e1) (by omega) (by omega)) npmX0_number rfl (nle rfl) ⟨nle rfl, nle rfl⟩ dX0_fillTell_108 ?_
      rintro _ m1 ⟨rfl, f1, c1⟩
      rw [wq_e (d := 100 < (vG B n z (p + 1))) (by omega)] at f1
      have fd := fd.tr (c1).fd
      have hT := (c1).t hT
      have hw := (c1).w hw
      have hd := FD.w0 ((c1).fd (dr := dr)) hd
      have hp := FD.w7 ((c1).fd (dr := dr)) hp
      have hC := hC.fz (by omega) c1
      have hat : gI m1 10 4 = nI p := by rw [(c1).1.at (by decide)]; exact hat
      have hf := f1
      refine go_c1 ?_
      refine go_putI lf0_84 rfl (Or.inl rfl) hp.o dX0_fillTell_111 ?_
      refine go_goto (tgt := 177) dX0_fillTell_114 (by decide) ?_
      refine go_vret rfl ⟨Nat.zero_le _, Nat.zero_le _⟩ dX0_fillTell_177 ?_
      refine ⟨rfl, FT.of hf (by rw [gI_n (by omega)]), fun q => DrC.mn (b := p + 10) (hC.int (m' := sI m1 dr (upd (gI m1 dr) (5 + 0) (nI (vG B n z (p + 1))))) (k := 0) (v := (vG B n z (p + 1))) (by omega) (by decide) gI_s (fun x a b => gI_n b) (fun x => rfl)) (by omega), fd.pl (by omega) ⟨by omega, by omega⟩⟩
    · skip
      refine go_iload_n (q := 3) (i := 3) rfl rfl dX0_fillTell_0 ?_
      refine go_tswIn (off := 116) (tgt := 117) dX0_fillTell_1 (by decide) (by decide) (by decide) (by decide) ?_
      refine go_aload_n (q := 1) (i := 1) rfl rfl dX0_fillTell_117 ?_
      refine go_aload_n (q := 0) (i := 0) rfl rfl dX0_fillTell_118 ?_
      refine go_aload_n (q := 2) (i := 2) rfl rfl dX0_fillTell_119 ?_
      refine go_aload_n (q := 0) (i := 0) rfl rfl dX0_fillTell_120 ?_
      refine go_getI lf0_30 rfl hd.o dX0_fillTell_121 ?_
      rw [hat]
      refine go_iconst (v := nI 1) (by decide) dX0_fillTell_124 ?_
      refine gn_add dX0_fillTell_125 ?_
      refine go_iconst (v := nI 0) (by decide) dX0_fillTell_126 ?_
      refine go_bipush (v := nI 99) (by decide) dX0_fillTell_127 ?_
      refine go_callV okmX0_number lmX0_80 ⟨nle rfl, nle rfl⟩ hd.o ⟨by decide, rfl⟩ (ev_number (a := 0) (b := 99) hT hw hf (by omega) e1 (hV _ e1) (by omega) (by omega)) npmX0_number rfl (nle rfl) ⟨nle rfl, nle rfl⟩ dX0_fillTell_129 ?_
      rintro _ m1 ⟨rfl, f1, c1⟩
      rw [wq_e (d := 99 < (vG B n z (p + 1))) (by omega)] at f1
      have fd := fd.tr (c1).fd
      have hT := (c1).t hT
      have hw := (c1).w hw
      have hd := FD.w0 ((c1).fd (dr := dr)) hd
      have hp := FD.w7 ((c1).fd (dr := dr)) hp
      have hC := hC.fz (by omega) c1
      have hat : gI m1 10 4 = nI p := by rw [(c1).1.at (by decide)]; exact hat
      have hf := f1
      refine go_c1 ?_
      refine go_putI lf0_87 rfl (Or.inl rfl) hp.o dX0_fillTell_132 ?_
      refine go_goto (tgt := 177) dX0_fillTell_135 (by decide) ?_
      refine go_vret rfl ⟨Nat.zero_le _, Nat.zero_le _⟩ dX0_fillTell_177 ?_
      refine ⟨rfl, FT.of hf (by rw [gI_n (by omega)]), fun q => DrC.mn (b := p + 10) (hC.int (m' := sI m1 dr (upd (gI m1 dr) (5 + 1) (nI (vG B n z (p + 1))))) (k := 1) (v := (vG B n z (p + 1))) (by omega) (by decide) gI_s (fun x a b => gI_n b) (fun x => rfl)) (by omega), fd.pl (by omega) ⟨by omega, by omega⟩⟩
    · skip
      refine go_iload_n (q := 3) (i := 3) rfl rfl dX0_fillTell_0 ?_
      refine go_tswIn (off := 137) (tgt := 138) dX0_fillTell_1 (by decide) (by decide) (by decide) (by decide) ?_
      refine go_aload_n (q := 1) (i := 1) rfl rfl dX0_fillTell_138 ?_
      refine go_aload_n (q := 0) (i := 0) rfl rfl dX0_fillTell_139 ?_
      refine go_aload_n (q := 2) (i := 2) rfl rfl dX0_fillTell_140 ?_
      refine go_aload_n (q := 0) (i := 0) rfl rfl dX0_fillTell_141 ?_
      refine go_getI lf0_30 rfl hd.o dX0_fillTell_142 ?_
      rw [hat]
      refine go_iconst (v := nI 1) (by decide) dX0_fillTell_145 ?_
      refine gn_add dX0_fillTell_146 ?_
      refine go_iconst (v := nI 0) (by decide) dX0_fillTell_147 ?_
      refine go_sipush (v := nI 9999) (by decide) dX0_fillTell_148 ?_
      refine go_callV okmX0_number lmX0_80 ⟨nle rfl, nle rfl⟩ hd.o ⟨by decide, rfl⟩ (ev_number (a := 0) (b := 9999) hT hw hf (by omega) e1 (hV _ e1) (by omega) (by omega)) npmX0_number rfl (nle rfl) ⟨nle rfl, nle rfl⟩ dX0_fillTell_151 ?_
      rintro _ m1 ⟨rfl, f1, c1⟩
      rw [wq_e (d := 9999 < (vG B n z (p + 1))) (by omega)] at f1
      have fd := fd.tr (c1).fd
      have hT := (c1).t hT
      have hw := (c1).w hw
      have hd := FD.w0 ((c1).fd (dr := dr)) hd
      have hp := FD.w7 ((c1).fd (dr := dr)) hp
      have hC := hC.fz (by omega) c1
      have hat : gI m1 10 4 = nI p := by rw [(c1).1.at (by decide)]; exact hat
      have hf := f1
      refine go_c1 ?_
      refine go_putI lf0_90 rfl (Or.inl rfl) hp.o dX0_fillTell_154 ?_
      refine go_goto (tgt := 177) dX0_fillTell_157 (by decide) ?_
      refine go_vret rfl ⟨Nat.zero_le _, Nat.zero_le _⟩ dX0_fillTell_177 ?_
      refine ⟨rfl, FT.of hf (by rw [gI_n (by omega)]), fun q => DrC.mn (b := p + 10) (hC.int (m' := sI m1 dr (upd (gI m1 dr) (5 + 2) (nI (vG B n z (p + 1))))) (k := 2) (v := (vG B n z (p + 1))) (by omega) (by decide) gI_s (fun x a b => gI_n b) (fun x => rfl)) (by omega), fd.pl (by omega) ⟨by omega, by omega⟩⟩
