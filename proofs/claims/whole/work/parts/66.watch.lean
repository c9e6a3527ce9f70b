theorem pck_m {n : Nat} {w : Nat → Nat} : pck n w (-1) = nI n := if_pos rfl
theorem pck_j {n j : Nat} {w : Nat → Nat} (hj : j < n) (hn : n ≤ 3) : pck n w (nI j) = nI (nm (w j)) := by
  unfold pck
  rw [if_neg (fun z => i1m j (by omega) z.symm), if_pos (by rw [nI_ltI (by omega) (by omega)]; exact hj), nI_clamp (by omega)]
theorem pck_o {n j : Nat} {w : Nat → Nat} (hj : n ≤ j) (hn : j ≤ 3) : pck n w (nI j) = -1 := by
  unfold pck
  rw [if_neg (fun z => i1m j (by omega) z.symm), if_neg (by rw [nI_ltI (by omega) (by omega)]; omega)]
theorem WaP_w {q : Nat → Prop} {f g : Nat} {T : Nat → Int32} {v : Int32} (hq : ∀ c, q c → c < 40) (h : WaP q f g T v) : (v = -2 ∧ ∀ i, WaV q f g i (-2)) ∨ ∃ n w, n ≤ 3 ∧ v = nI n ∧ (∀ k, k < n → T k = nI (w k) ∧ w k < 40) ∧ ∀ i, WaV q f g i (pck n w i) := by
  rcases h with ⟨h0, rfl⟩ | ⟨h0, rfl, a, h1, ea⟩ | ⟨h0, h1, rfl, a, b, h2, ea, eb⟩ | ⟨h0, h1, h2, rfl, a, b, d, h3, ea, eb, ed⟩ | ⟨h0, h1, h2, h3, rfl⟩
  · exact Or.inr ⟨0, fun _ => 0, by decide, rfl, fun k hk => absurd hk (Nat.not_lt_zero k), fun i => Or.inl ⟨h0, _, rfl⟩⟩
  · refine Or.inr ⟨1, fun _ => a, by decide, rfl, fun k hk => ?_, fun i => Or.inr (Or.inl ⟨h0, _, h1, rfl⟩)⟩
    rw [show k = 0 by omega]
    exact ⟨ea, hq _ h1.1.1.1.1⟩
  · refine Or.inr ⟨2, fun k => if k = 0 then a else b, by decide, rfl, fun k hk => ?_, fun i => Or.inr (Or.inr (Or.inl ⟨h0, h1, _, h2, rfl⟩))⟩
    rcases (show k = 0 ∨ k = 1 by omega) with rfl | rfl
    · exact ⟨ea, hq _ h2.1.2.1.1.1⟩
    · exact ⟨eb, hq _ h2.1.2.2.1.1.1⟩
  · refine Or.inr ⟨3, fun k => if k = 0 then a else if k = 1 then b else d, by decide, rfl, fun k hk => ?_, fun i => Or.inr (Or.inr (Or.inr (Or.inl ⟨h0, h1, h2, _, h3, rfl⟩)))⟩
    rcases (show k = 0 ∨ k = 1 ∨ k = 2 by omega) with rfl | rfl | rfl
    · exact ⟨ea, hq _ h3.1.2.2.1.1.1⟩
    · exact ⟨eb, hq _ h3.1.2.2.2.1.1.1⟩
    · exact ⟨ed, hq _ h3.1.2.2.2.2.1.1.1⟩
  · exact Or.inl ⟨rfl, fun i => Or.inr (Or.inr (Or.inr (Or.inr ⟨h0, h1, h2, h3, rfl⟩)))⟩
/-- is it a cell's name, in the reference -/
def iaS (P : Pl) (x : Int32) : Int32 := if 0 ≤ x then icS P (rm10 x) (x / nI 10) else nI 0
theorem nm_inj {f g : Nat} (h : nm f = nm g) : f = g := by unfold nm at h; omega
theorem nm_lt {f : Nat} (h : f < 40) : nm f < 48 := by unfold nm; omega
theorem tc_c {P : Pl} (ok : PlOk P) (x : Int32) : (tcS (nI P.wd) (nI P.rw) x = -1 ∧ iaS P x = nI 0 ∧ ∀ f, f < 40 → ld P f → ¬ x = nI (nm f)) ∨ ∃ f, f < 40 ∧ ld P f ∧ x = nI (nm f) ∧ tcS (nI P.wd) (nI P.rw) x = nI f ∧ iaS P x = nI 1 := by
  have hw := ok.1
  have hr := ok.2.1
  unfold tcS iaS
  by_cases h0 : 0 ≤ x
  · rw [if_pos h0, if_pos h0]
    obtain ⟨k, hk, rfl⟩ := nI_of (Int32.not_lt.mpr h0)
    have e1 : rm10 (nI k) = nI (k % 10) := by unfold rm10; rw [pk_rem hk (by decide) (by decide)]
    have e2 : nI k / nI 10 = nI (k / 10) := pk_div hk (by decide) (by decide)
    rw [e1, e2]
    rcases ce_c ok (nI (k % 10)) (nI (k / 10)) with ⟨h1, h2⟩ | ⟨a, b, ha, hb, h3, h4, h5, h6⟩
    · refine Or.inl ⟨h1, h2, fun f hf l z => ?_⟩
      have z := (nI_eq hk (by have := nm_lt hf; omega)).mp z
      unfold nm at z
      have hl := l.1
      have hm := l.2
      have q := ic_1 ok (a := k % 10) (b := k / 10) (by omega) (by omega)
      rw [h2] at q
      exact absurd q (by decide)
    · have q1 := (nI_eq (show k % 10 < 2 ^ 31 by omega) (show a < 2 ^ 31 by omega)).mp h3
      have q2 := (nI_eq (show k / 10 < 2 ^ 31 by omega) (show b < 2 ^ 31 by omega)).mp h4
      refine Or.inr ⟨8 * b + a, by omega, ld_ab ok ha hb, ?_, h5, h6⟩
      rw [show nm (8 * b + a) = k by unfold nm; omega]
  · rw [if_neg h0, if_neg h0]
    refine Or.inl ⟨rfl, rfl, fun f hf _ z => h0 ?_⟩
    rw [z]
    exact Int32.not_lt.mp (nI_pos (by have := nm_lt hf; omega))
def iOk (i : Int32) : Prop := i = -1 ∨ ∃ j, j ≤ 2 ∧ i = nI j
theorem i_ok {i : Int32} (h1 : ¬ i < -1) (h2 : i < nI 3) : iOk i := by
  rw [Int32.lt_iff_toInt_lt] at h1 h2
  rw [nI_toInt (by decide)] at h2
  rw [show (-1 : Int32).toInt = -1 from by decide] at h1
  by_cases e : i = -1
  · exact Or.inl e
  · right
    have : 0 ≤ i.toInt := by
      rcases (show i.toInt = -1 ∨ 0 ≤ i.toInt by omega) with z | z
      · exact absurd (Int32.toInt_inj.mp (z.trans (show (-1 : Int) = (-1 : Int32).toInt from by decide))) e
      · exact z
    obtain ⟨j, hj, rfl⟩ := nI_of (x := i) (by rw [Int32.lt_iff_toInt_lt]; show ¬ i.toInt < (0 : Int32).toInt; rw [show (0 : Int32).toInt = 0 from by decide]; omega)
    rw [nI_toInt hj] at h2
    exact ⟨j, by omega, rfl⟩
def Vd (P : Pl) (x y th i : Int32) (f g t : Nat) : Prop := f < 40 ∧ g < 40 ∧ ld P f ∧ ld P g ∧ x = nI (nm f) ∧ y = nI (nm g) ∧ ¬ g = f ∧ t ≤ 99 ∧ th = nI t ∧ iOk i
def qS (P : Pl) (r : Nat → Int32) (t : Nat) : Nat → Prop := fun c => c < 40 ∧ ld P c ∧ nI t ≤ r c
def WaQ (P : Pl) (r : Nat → Int32) (x y th i v : Int32) : Prop := (∃ f g t, Vd P x y th i f g t ∧ WaV (qS P r t) f g i v) ∨ ((∀ f g t, ¬ Vd P x y th i f g t) ∧ v = -1)
theorem WaQ_u {P : Pl} {r : Nat → Int32} {x y th i v v' : Int32} (h : WaQ P r x y th i v) (k : WaQ P r x y th i v') : v = v' := by
  rcases h with ⟨f, g, t, h1, h2⟩ | ⟨h1, h2⟩
  · rcases k with ⟨f', g', t', k1, k2⟩ | ⟨k1, k2⟩
    · obtain ⟨a1, a2, a3, a4, a5, a6, a7, a8, a9, aA⟩ := h1
      obtain ⟨b1, b2, b3, b4, b5, b6, b7, b8, b9, bA⟩ := k1
      have e1 : f = f' := nm_inj ((nI_eq (by have := nm_lt a1; omega) (by have := nm_lt b1; omega)).mp (a5.symm.trans b5))
      have e2 : g = g' := nm_inj ((nI_eq (by have := nm_lt a2; omega) (by have := nm_lt b2; omega)).mp (a6.symm.trans b6))
      have e3 : t = t' := (nI_eq (by omega) (by omega)).mp (a9.symm.trans b9)
      subst e1; subst e2; subst e3
      exact WaV_u aA h2 k2
    · exact absurd h1 (k1 f g t)
  · rcases k with ⟨f', g', t', k1, k2⟩ | ⟨k1, k2⟩
    · exact absurd k1 (h1 f' g' t')
    · rw [h2, k2]
theorem GdK.cl {pl : Nat} {m m' : Me} (h : GdK m m') : ClK pl m m' := ⟨h.1, h.2.1, fun x z => h.2.2.1 x (fun e => z (by unfold LkA; omega)), h.2.2.2⟩
theorem GdK.cx {m m' : Me} {pl dr : Nat} (h : GdK m m') (k : CX m.1 (gR m) pl dr) : CX m'.1 (gR m') pl dr := by rw [h.1, h.2.1]; exact k
theorem told_w {T : Nat → Int32} {w : Nat → Nat} {n j : Nat} (h : ∀ k, k < n → T k = nI (w k) ∧ w k < 40) (hj : j < n) : toldS (T j) = nI (nm (w j)) := by
  rw [(h j hj).1, told_c (h j hj).2]; rfl
set_option maxRecDepth 100000 in
set_option maxHeartbeats 8000000 in
theorem ev_watch {m : Me} {pl dr M : Nat} {P : Pl} {r : Nat → Int32} (hX : CX m.1 (gR m) pl dr) (hP : PlC m pl P) (ok : PlOk P) (hM : M < 2 ^ 18) (hr : RoOk P M r) (hc : CR P (gw m 15) r) {x y th i : Int32} : Ev mX11_watch [.ref 0, .int x, .int y, .int th, .int i] m (fun o m' => (∃ v, o = some (.int v) ∧ WaQ P r x y th i v) ∧ ClK pl m m') := by
  refine ⟨plmX11_watch, nle rfl, ?_⟩
  have hw8 := ok.1
  have hr5 := ok.2.1
  have hpd := hX.pd
  have hh4 := ok.2.2.1
  have hu6 := ok.2.2.2.1
  rcases tc_c ok x with ⟨htx, hix, hnx⟩ | ⟨f, hf4, hlf, rfl, htx, hix⟩
  · skip
    refine go_aload_n (q := 0) (i := 0) rfl rfl dX11_watch_0 ?_
    refine go_getR lf11_86 rfl hX.o hX.rp dX11_watch_1 ?_
    refine go_iload_n (q := 1) (i := 1) rfl rfl dX11_watch_4 ?_
    refine go_callV okmX7_toldCell lmX11_254 ⟨nle rfl, nle rfl⟩ hX.wp.o ⟨by decide, rfl⟩ (ev_toldCell hX.wp) npmX7_toldCell rfl (nle rfl) ⟨nle rfl, nle rfl⟩ dX11_watch_5 ?_
    rintro _ mz ⟨rfl, hz⟩
    subst mz
    rw [hP.wd, hP.rw, htx]
    refine go_c1 ?_
    refine go_istore (i := 5) dX11_watch_8 (nle rfl) (nle rfl) ?_
    refine go_aload_n (q := 0) (i := 0) rfl rfl dX11_watch_10 ?_
    refine go_getR lf11_86 rfl hX.o hX.rp dX11_watch_11 ?_
    refine go_iload_n (q := 2) (i := 2) rfl rfl dX11_watch_14 ?_
    refine go_callV okmX7_toldCell lmX11_254 ⟨nle rfl, nle rfl⟩ hX.wp.o ⟨by decide, rfl⟩ (ev_toldCell hX.wp) npmX7_toldCell rfl (nle rfl) ⟨nle rfl, nle rfl⟩ dX11_watch_15 ?_
    rintro _ mz ⟨rfl, hz⟩
    subst mz
    rw [hP.wd, hP.rw]
    refine go_c1 ?_
    refine go_istore (i := 6) dX11_watch_18 (nle rfl) (nle rfl) ?_
    refine go_iload (i := 5) rfl dX11_watch_20 ?_
    refine go_if_lt (tgt := 56) dX11_watch_22 (by decide) (fun h22 => ?_) (fun h22 => by exfalso; exact h22 (by decide))
    refine go_iconst (v := -1) (by decide) dX11_watch_56 ?_
    refine go_iret rfl ⟨Nat.zero_le _, Nat.zero_le _⟩ dX11_watch_57 ?_
    exact ⟨⟨_, rfl, Or.inr ⟨fun f' g' t' z => hnx f' z.1 z.2.2.1 z.2.2.2.2.1, rfl⟩⟩, ClK.rf⟩
  · skip
    rcases tc_c ok y with ⟨hty, hiy, hny⟩ | ⟨g, hg4, hlg, rfl, hty, hiy⟩
    · skip
      refine go_aload_n (q := 0) (i := 0) rfl rfl dX11_watch_0 ?_
      refine go_getR lf11_86 rfl hX.o hX.rp dX11_watch_1 ?_
      refine go_iload_n (q := 1) (i := 1) rfl rfl dX11_watch_4 ?_
      refine go_callV okmX7_toldCell lmX11_254 ⟨nle rfl, nle rfl⟩ hX.wp.o ⟨by decide, rfl⟩ (ev_toldCell hX.wp) npmX7_toldCell rfl (nle rfl) ⟨nle rfl, nle rfl⟩ dX11_watch_5 ?_
      rintro _ mz ⟨rfl, hz⟩
      subst mz
      rw [hP.wd, hP.rw, htx]
      refine go_c1 ?_
      refine go_istore (i := 5) dX11_watch_8 (nle rfl) (nle rfl) ?_
      refine go_aload_n (q := 0) (i := 0) rfl rfl dX11_watch_10 ?_
      refine go_getR lf11_86 rfl hX.o hX.rp dX11_watch_11 ?_
      refine go_iload_n (q := 2) (i := 2) rfl rfl dX11_watch_14 ?_
      refine go_callV okmX7_toldCell lmX11_254 ⟨nle rfl, nle rfl⟩ hX.wp.o ⟨by decide, rfl⟩ (ev_toldCell hX.wp) npmX7_toldCell rfl (nle rfl) ⟨nle rfl, nle rfl⟩ dX11_watch_15 ?_
      rintro _ mz ⟨rfl, hz⟩
      subst mz
      rw [hP.wd, hP.rw, hty]
      refine go_c1 ?_
      refine go_istore (i := 6) dX11_watch_18 (nle rfl) (nle rfl) ?_
      refine go_iload (i := 5) rfl dX11_watch_20 ?_
      refine gz_lt (by omega) (tgt := 56) dX11_watch_22 (by decide) (fun h22 => by exfalso; omega) (fun h22 => ?_)
      refine go_iload (i := 6) rfl dX11_watch_25 ?_
      refine go_if_lt (tgt := 56) dX11_watch_27 (by decide) (fun h27 => ?_) (fun h27 => by exfalso; exact h27 (by decide))
      refine go_iconst (v := -1) (by decide) dX11_watch_56 ?_
      refine go_iret rfl ⟨Nat.zero_le _, Nat.zero_le _⟩ dX11_watch_57 ?_
      exact ⟨⟨_, rfl, Or.inr ⟨fun f' g' t' z => hny g' z.2.1 z.2.2.2.1 z.2.2.2.2.2.1, rfl⟩⟩, ClK.rf⟩
    · skip
      by_cases hfg : g = f
      · skip
        subst hfg
        refine go_aload_n (q := 0) (i := 0) rfl rfl dX11_watch_0 ?_
        refine go_getR lf11_86 rfl hX.o hX.rp dX11_watch_1 ?_
        refine go_iload_n (q := 1) (i := 1) rfl rfl dX11_watch_4 ?_
        refine go_callV okmX7_toldCell lmX11_254 ⟨nle rfl, nle rfl⟩ hX.wp.o ⟨by decide, rfl⟩ (ev_toldCell hX.wp) npmX7_toldCell rfl (nle rfl) ⟨nle rfl, nle rfl⟩ dX11_watch_5 ?_
        rintro _ mz ⟨rfl, hz⟩
        subst mz
        rw [hP.wd, hP.rw, htx]
        refine go_c1 ?_
        refine go_istore (i := 5) dX11_watch_8 (nle rfl) (nle rfl) ?_
        refine go_aload_n (q := 0) (i := 0) rfl rfl dX11_watch_10 ?_
        refine go_getR lf11_86 rfl hX.o hX.rp dX11_watch_11 ?_
        refine go_iload_n (q := 2) (i := 2) rfl rfl dX11_watch_14 ?_
        refine go_callV okmX7_toldCell lmX11_254 ⟨nle rfl, nle rfl⟩ hX.wp.o ⟨by decide, rfl⟩ (ev_toldCell hX.wp) npmX7_toldCell rfl (nle rfl) ⟨nle rfl, nle rfl⟩ dX11_watch_15 ?_
        rintro _ mz ⟨rfl, hz⟩
        subst mz
        rw [hP.wd, hP.rw, hty]
        refine go_c1 ?_
        refine go_istore (i := 6) dX11_watch_18 (nle rfl) (nle rfl) ?_
        refine go_iload (i := 5) rfl dX11_watch_20 ?_
        refine gz_lt (by omega) (tgt := 56) dX11_watch_22 (by decide) (fun h22 => by exfalso; omega) (fun h22 => ?_)
        refine go_iload (i := 6) rfl dX11_watch_25 ?_
        refine gz_lt (by omega) (tgt := 56) dX11_watch_27 (by decide) (fun h27 => by exfalso; omega) (fun h27 => ?_)
        refine go_iload (i := 5) rfl dX11_watch_30 ?_
        refine go_iload (i := 6) rfl dX11_watch_32 ?_
        refine gn_eq (by omega) (by omega) (tgt := 56) dX11_watch_34 (by decide) (fun h34 => ?_) (fun h34 => by exfalso; omega)
        refine go_iconst (v := -1) (by decide) dX11_watch_56 ?_
        refine go_iret rfl ⟨Nat.zero_le _, Nat.zero_le _⟩ dX11_watch_57 ?_
        exact ⟨⟨_, rfl, Or.inr ⟨fun f' g' t' z => by obtain ⟨b1, b2, b3, b4, b5, b6, b7, -, -, -⟩ := z; exact b7 (nm_inj ((nI_eq (by have := nm_lt b2; omega) (by have := nm_lt b1; omega)).mp (b6.symm.trans b5))), rfl⟩⟩, ClK.rf⟩
      · skip
        rcases in_c th (N := 99) (by decide) with hth | ⟨t, ht, rfl, hth⟩
        · skip
          refine go_aload_n (q := 0) (i := 0) rfl rfl dX11_watch_0 ?_
          refine go_getR lf11_86 rfl hX.o hX.rp dX11_watch_1 ?_
          refine go_iload_n (q := 1) (i := 1) rfl rfl dX11_watch_4 ?_
          refine go_callV okmX7_toldCell lmX11_254 ⟨nle rfl, nle rfl⟩ hX.wp.o ⟨by decide, rfl⟩ (ev_toldCell hX.wp) npmX7_toldCell rfl (nle rfl) ⟨nle rfl, nle rfl⟩ dX11_watch_5 ?_
          rintro _ mz ⟨rfl, hz⟩
          subst mz
          rw [hP.wd, hP.rw, htx]
          refine go_c1 ?_
          refine go_istore (i := 5) dX11_watch_8 (nle rfl) (nle rfl) ?_
          refine go_aload_n (q := 0) (i := 0) rfl rfl dX11_watch_10 ?_
          refine go_getR lf11_86 rfl hX.o hX.rp dX11_watch_11 ?_
          refine go_iload_n (q := 2) (i := 2) rfl rfl dX11_watch_14 ?_
          refine go_callV okmX7_toldCell lmX11_254 ⟨nle rfl, nle rfl⟩ hX.wp.o ⟨by decide, rfl⟩ (ev_toldCell hX.wp) npmX7_toldCell rfl (nle rfl) ⟨nle rfl, nle rfl⟩ dX11_watch_15 ?_
          rintro _ mz ⟨rfl, hz⟩
          subst mz
          rw [hP.wd, hP.rw, hty]
          refine go_c1 ?_
          refine go_istore (i := 6) dX11_watch_18 (nle rfl) (nle rfl) ?_
          refine go_iload (i := 5) rfl dX11_watch_20 ?_
          refine gz_lt (by omega) (tgt := 56) dX11_watch_22 (by decide) (fun h22 => by exfalso; omega) (fun h22 => ?_)
          refine go_iload (i := 6) rfl dX11_watch_25 ?_
          refine gz_lt (by omega) (tgt := 56) dX11_watch_27 (by decide) (fun h27 => by exfalso; omega) (fun h27 => ?_)
          refine go_iload (i := 5) rfl dX11_watch_30 ?_
          refine go_iload (i := 6) rfl dX11_watch_32 ?_
          refine gn_eq (by omega) (by omega) (tgt := 56) dX11_watch_34 (by decide) (fun h34 => by exfalso; exact hfg h34.symm) (fun h34 => ?_)
          refine go_iload_n (q := 3) (i := 3) rfl rfl dX11_watch_37 ?_
          refine go_callS okmX11_isThick lmX11_235 ⟨nle rfl, nle rfl⟩ (ev_isThick) npmX11_isThick rfl (nle rfl) ⟨nle rfl, nle rfl⟩ dX11_watch_38 ?_
          rintro _ mz ⟨rfl, hz⟩
          subst mz
          rw [th_in, hth]
          refine go_c1 ?_
          refine gz_eq (by omega) (tgt := 56) dX11_watch_41 (by decide) (fun h41 => ?_) (fun h41 => by exfalso; omega)
          refine go_iconst (v := -1) (by decide) dX11_watch_56 ?_
          refine go_iret rfl ⟨Nat.zero_le _, Nat.zero_le _⟩ dX11_watch_57 ?_
          exact ⟨⟨_, rfl, Or.inr ⟨fun f' g' t' z => by have q := z.2.2.2.2.2.2.2.2.1; have p := z.2.2.2.2.2.2.2.1; rw [q] at hth; unfold inS at hth; rw [if_neg (by rw [nI_ltI (by omega) (by omega)]; omega), if_neg (by rw [nI_ltI (by omega) (by omega)]; omega)] at hth; exact absurd hth (by decide), rfl⟩⟩, ClK.rf⟩
        · skip
          by_cases hio : iOk i
          · skip
            have hVd : Vd P (nI (nm f)) (nI (nm g)) (nI t) i f g t := ⟨hf4, hg4, hlf, hlg, rfl, rfl, hfg, ht, rfl, hio⟩
            rcases hio with rfl | ⟨j, hj2, rfl⟩
            · skip
              refine go_aload_n (q := 0) (i := 0) rfl rfl dX11_watch_0 ?_
              refine go_getR lf11_86 rfl hX.o hX.rp dX11_watch_1 ?_
              refine go_iload_n (q := 1) (i := 1) rfl rfl dX11_watch_4 ?_
              refine go_callV okmX7_toldCell lmX11_254 ⟨nle rfl, nle rfl⟩ hX.wp.o ⟨by decide, rfl⟩ (ev_toldCell hX.wp) npmX7_toldCell rfl (nle rfl) ⟨nle rfl, nle rfl⟩ dX11_watch_5 ?_
              rintro _ mz ⟨rfl, hz⟩
              subst mz
              rw [hP.wd, hP.rw, htx]
              refine go_c1 ?_
              refine go_istore (i := 5) dX11_watch_8 (nle rfl) (nle rfl) ?_
              refine go_aload_n (q := 0) (i := 0) rfl rfl dX11_watch_10 ?_
              refine go_getR lf11_86 rfl hX.o hX.rp dX11_watch_11 ?_
              refine go_iload_n (q := 2) (i := 2) rfl rfl dX11_watch_14 ?_
              refine go_callV okmX7_toldCell lmX11_254 ⟨nle rfl, nle rfl⟩ hX.wp.o ⟨by decide, rfl⟩ (ev_toldCell hX.wp) npmX7_toldCell rfl (nle rfl) ⟨nle rfl, nle rfl⟩ dX11_watch_15 ?_
              rintro _ mz ⟨rfl, hz⟩
              subst mz
              rw [hP.wd, hP.rw, hty]
              refine go_c1 ?_
              refine go_istore (i := 6) dX11_watch_18 (nle rfl) (nle rfl) ?_
              refine go_iload (i := 5) rfl dX11_watch_20 ?_
              refine gz_lt (by omega) (tgt := 56) dX11_watch_22 (by decide) (fun h22 => by exfalso; omega) (fun h22 => ?_)
              refine go_iload (i := 6) rfl dX11_watch_25 ?_
              refine gz_lt (by omega) (tgt := 56) dX11_watch_27 (by decide) (fun h27 => by exfalso; omega) (fun h27 => ?_)
              refine go_iload (i := 5) rfl dX11_watch_30 ?_
              refine go_iload (i := 6) rfl dX11_watch_32 ?_
              refine gn_eq (by omega) (by omega) (tgt := 56) dX11_watch_34 (by decide) (fun h34 => by exfalso; exact hfg h34.symm) (fun h34 => ?_)
              refine go_iload_n (q := 3) (i := 3) rfl rfl dX11_watch_37 ?_
              refine go_callS okmX11_isThick lmX11_235 ⟨nle rfl, nle rfl⟩ (ev_isThick) npmX11_isThick rfl (nle rfl) ⟨nle rfl, nle rfl⟩ dX11_watch_38 ?_
              rintro _ mz ⟨rfl, hz⟩
              subst mz
              rw [th_in, hth]
              refine go_c1 ?_
              refine gz_eq (by omega) (tgt := 56) dX11_watch_41 (by decide) (fun h41 => by exfalso; omega) (fun h41 => ?_)
              refine go_iload (i := 4) rfl dX11_watch_44 ?_
              refine go_iconst (v := -1) (by decide) dX11_watch_46 ?_
              refine go_icmp_lt (tgt := 56) dX11_watch_47 (by decide) (fun h47 => by exfalso; exact absurd h47 (by decide)) (fun h47 => ?_)
              refine go_iload (i := 4) rfl dX11_watch_50 ?_
              refine go_iconst (v := nI 3) (by decide) dX11_watch_52 ?_
              refine go_icmp_lt (tgt := 58) dX11_watch_53 (by decide) (fun h53 => ?_) (fun h53 => by exfalso; exact h53 (by decide))
              refine go_aload_n (q := 0) (i := 0) rfl rfl dX11_watch_58 ?_
              refine go_getR lf11_79 rfl hX.o hX.r11 dX11_watch_59 ?_
              refine go_aload_n (q := 0) (i := 0) rfl rfl dX11_watch_62 ?_
              refine go_getR lf11_47 rfl hX.o hX.r5 dX11_watch_63 ?_
              refine go_iload_n (q := 3) (i := 3) rfl rfl dX11_watch_66 ?_
              refine go_callV okmX1_asThick lmX11_246 ⟨nle rfl, nle rfl⟩ hX.w5.o ⟨by decide, rfl⟩ (ev_asThick hX.w5) npmX1_asThick rfl (nle rfl) ⟨nle rfl, nle rfl⟩ dX11_watch_67 ?_
              rintro _ mz ⟨rfl, hz⟩
              subst mz
              refine go_c1 ?_
              refine go_iload (i := 5) rfl dX11_watch_70 ?_
              refine go_iload (i := 6) rfl dX11_watch_72 ?_
              refine go_callV okmX3_post lmX11_257 ⟨nle rfl, nle rfl⟩ hX.w11.o ⟨by decide, rfl⟩ (ev_post hX.w11 (show BS _ (qS P r t) from at_bs ok hr hc) (fun c z => z.1) hf4 hg4 hfg) npmX3_post rfl (nle rfl) ⟨nle rfl, nle rfl⟩ dX11_watch_74 ?_
              rintro _ m2 ⟨c1, v, rfl, hv⟩
              have hX := c1.cx hX
              rcases WaP_w (fun c z => z.1) hv with ⟨rfl, hW⟩ | ⟨n, w, hn3, rfl, hw, hW⟩
              · skip
                refine go_c1 ?_
                refine go_istore (i := 7) dX11_watch_77 (nle rfl) (nle rfl) ?_
                refine go_iload (i := 7) rfl dX11_watch_79 ?_
                refine go_if_lt (tgt := 90) dX11_watch_81 (by decide) (fun h81 => ?_) (fun h81 => by exfalso; exact h81 (by decide))
                refine go_iload (i := 7) rfl dX11_watch_90 ?_
                refine go_iret rfl ⟨Nat.zero_le _, Nat.zero_le _⟩ dX11_watch_92 ?_
                refine ⟨⟨_, rfl, Or.inl ⟨f, g, t, hVd, ?_⟩⟩, c1.cl⟩
                exact hW _
              · skip
                refine go_c1 ?_
                refine go_istore (i := 7) dX11_watch_77 (nle rfl) (nle rfl) ?_
                refine go_iload (i := 7) rfl dX11_watch_79 ?_
                refine gz_lt (by omega) (tgt := 90) dX11_watch_81 (by decide) (fun h81 => by exfalso; omega) (fun h81 => ?_)
                refine go_iload (i := 4) rfl dX11_watch_84 ?_
                refine go_iconst (v := -1) (by decide) dX11_watch_86 ?_
                refine go_icmp_ne (tgt := 93) dX11_watch_87 (by decide) (fun h87 => by exfalso; exact h87 rfl) (fun h87 => ?_)
                refine go_iload (i := 7) rfl dX11_watch_90 ?_
                refine go_iret rfl ⟨Nat.zero_le _, Nat.zero_le _⟩ dX11_watch_92 ?_
                refine ⟨⟨_, rfl, Or.inl ⟨f, g, t, hVd, ?_⟩⟩, c1.cl⟩
                have z := hW (-1)
                rw [pck_m] at z
                exact z
            · skip
              refine go_aload_n (q := 0) (i := 0) rfl rfl dX11_watch_0 ?_
              refine go_getR lf11_86 rfl hX.o hX.rp dX11_watch_1 ?_
              refine go_iload_n (q := 1) (i := 1) rfl rfl dX11_watch_4 ?_
              refine go_callV okmX7_toldCell lmX11_254 ⟨nle rfl, nle rfl⟩ hX.wp.o ⟨by decide, rfl⟩ (ev_toldCell hX.wp) npmX7_toldCell rfl (nle rfl) ⟨nle rfl, nle rfl⟩ dX11_watch_5 ?_
              rintro _ mz ⟨rfl, hz⟩
              subst mz
              rw [hP.wd, hP.rw, htx]
              refine go_c1 ?_
              refine go_istore (i := 5) dX11_watch_8 (nle rfl) (nle rfl) ?_
              refine go_aload_n (q := 0) (i := 0) rfl rfl dX11_watch_10 ?_
              refine go_getR lf11_86 rfl hX.o hX.rp dX11_watch_11 ?_
              refine go_iload_n (q := 2) (i := 2) rfl rfl dX11_watch_14 ?_
              refine go_callV okmX7_toldCell lmX11_254 ⟨nle rfl, nle rfl⟩ hX.wp.o ⟨by decide, rfl⟩ (ev_toldCell hX.wp) npmX7_toldCell rfl (nle rfl) ⟨nle rfl, nle rfl⟩ dX11_watch_15 ?_
              rintro _ mz ⟨rfl, hz⟩
              subst mz
              rw [hP.wd, hP.rw, hty]
              refine go_c1 ?_
              refine go_istore (i := 6) dX11_watch_18 (nle rfl) (nle rfl) ?_
              refine go_iload (i := 5) rfl dX11_watch_20 ?_
              refine gz_lt (by omega) (tgt := 56) dX11_watch_22 (by decide) (fun h22 => by exfalso; omega) (fun h22 => ?_)
              refine go_iload (i := 6) rfl dX11_watch_25 ?_
              refine gz_lt (by omega) (tgt := 56) dX11_watch_27 (by decide) (fun h27 => by exfalso; omega) (fun h27 => ?_)
              refine go_iload (i := 5) rfl dX11_watch_30 ?_
              refine go_iload (i := 6) rfl dX11_watch_32 ?_
              refine gn_eq (by omega) (by omega) (tgt := 56) dX11_watch_34 (by decide) (fun h34 => by exfalso; exact hfg h34.symm) (fun h34 => ?_)
              refine go_iload_n (q := 3) (i := 3) rfl rfl dX11_watch_37 ?_
              refine go_callS okmX11_isThick lmX11_235 ⟨nle rfl, nle rfl⟩ (ev_isThick) npmX11_isThick rfl (nle rfl) ⟨nle rfl, nle rfl⟩ dX11_watch_38 ?_
              rintro _ mz ⟨rfl, hz⟩
              subst mz
              rw [th_in, hth]
              refine go_c1 ?_
              refine gz_eq (by omega) (tgt := 56) dX11_watch_41 (by decide) (fun h41 => by exfalso; omega) (fun h41 => ?_)
              refine go_iload (i := 4) rfl dX11_watch_44 ?_
              refine go_iconst (v := -1) (by decide) dX11_watch_46 ?_
              refine go_icmp_lt (tgt := 56) dX11_watch_47 (by decide) (fun h47 => by exfalso; exact absurd h47 (by rw [Int32.lt_iff_toInt_lt, nI_toInt (by omega), show (-1 : Int32).toInt = -1 from by decide]; omega)) (fun h47 => ?_)
              refine go_iload (i := 4) rfl dX11_watch_50 ?_
              refine go_iconst (v := nI 3) (by decide) dX11_watch_52 ?_
              refine gn_lt (by omega) (by omega) (tgt := 58) dX11_watch_53 (by decide) (fun h53 => ?_) (fun h53 => by exfalso; omega)
              refine go_aload_n (q := 0) (i := 0) rfl rfl dX11_watch_58 ?_
              refine go_getR lf11_79 rfl hX.o hX.r11 dX11_watch_59 ?_
              refine go_aload_n (q := 0) (i := 0) rfl rfl dX11_watch_62 ?_
              refine go_getR lf11_47 rfl hX.o hX.r5 dX11_watch_63 ?_
              refine go_iload_n (q := 3) (i := 3) rfl rfl dX11_watch_66 ?_
              refine go_callV okmX1_asThick lmX11_246 ⟨nle rfl, nle rfl⟩ hX.w5.o ⟨by decide, rfl⟩ (ev_asThick hX.w5) npmX1_asThick rfl (nle rfl) ⟨nle rfl, nle rfl⟩ dX11_watch_67 ?_
              rintro _ mz ⟨rfl, hz⟩
              subst mz
              refine go_c1 ?_
              refine go_iload (i := 5) rfl dX11_watch_70 ?_
              refine go_iload (i := 6) rfl dX11_watch_72 ?_
              refine go_callV okmX3_post lmX11_257 ⟨nle rfl, nle rfl⟩ hX.w11.o ⟨by decide, rfl⟩ (ev_post hX.w11 (show BS _ (qS P r t) from at_bs ok hr hc) (fun c z => z.1) hf4 hg4 hfg) npmX3_post rfl (nle rfl) ⟨nle rfl, nle rfl⟩ dX11_watch_74 ?_
              rintro _ m2 ⟨c1, v, rfl, hv⟩
              have hX := c1.cx hX
              rcases WaP_w (fun c z => z.1) hv with ⟨rfl, hW⟩ | ⟨n, w, hn3, rfl, hw, hW⟩
              · skip
                refine go_c1 ?_
                refine go_istore (i := 7) dX11_watch_77 (nle rfl) (nle rfl) ?_
                refine go_iload (i := 7) rfl dX11_watch_79 ?_
                refine go_if_lt (tgt := 90) dX11_watch_81 (by decide) (fun h81 => ?_) (fun h81 => by exfalso; exact h81 (by decide))
                refine go_iload (i := 7) rfl dX11_watch_90 ?_
                refine go_iret rfl ⟨Nat.zero_le _, Nat.zero_le _⟩ dX11_watch_92 ?_
                refine ⟨⟨_, rfl, Or.inl ⟨f, g, t, hVd, ?_⟩⟩, c1.cl⟩
                exact hW _
              · skip
                refine go_c1 ?_
                refine go_istore (i := 7) dX11_watch_77 (nle rfl) (nle rfl) ?_
                refine go_iload (i := 7) rfl dX11_watch_79 ?_
                refine gz_lt (by omega) (tgt := 90) dX11_watch_81 (by decide) (fun h81 => by exfalso; omega) (fun h81 => ?_)
                refine go_iload (i := 4) rfl dX11_watch_84 ?_
                refine go_iconst (v := -1) (by decide) dX11_watch_86 ?_
                refine go_icmp_ne (tgt := 93) dX11_watch_87 (by decide) (fun h87 => ?_) (fun h87 => by exfalso; exact i1m j (by omega) h87.symm)
                refine go_iload (i := 4) rfl dX11_watch_93 ?_
                refine go_iload (i := 7) rfl dX11_watch_95 ?_
                refine gn_ge (by omega) (by omega) (tgt := 115) dX11_watch_97 (by decide) (fun h97 => ?_) (fun h97 => ?_)
                · skip
                  refine go_iconst (v := -1) (by decide) dX11_watch_115 ?_
                  refine go_iret rfl ⟨Nat.zero_le _, Nat.zero_le _⟩ dX11_watch_116 ?_
                  refine ⟨⟨_, rfl, Or.inl ⟨f, g, t, hVd, ?_⟩⟩, c1.cl⟩
                  have z := hW (nI j)
                  rw [pck_o (by omega) (by omega)] at z
                  exact z
                · skip
                  refine go_aload_n (q := 0) (i := 0) rfl rfl dX11_watch_100 ?_
                  refine go_getR lf11_79 rfl hX.o hX.r11 dX11_watch_101 ?_
                  refine go_iload (i := 4) rfl dX11_watch_104 ?_
                  refine go_callV okmX3_watchedAt lmX11_261 ⟨nle rfl, nle rfl⟩ hX.w11.o ⟨by decide, rfl⟩ (ev_watchedAt hX.w11 (by omega)) npmX3_watchedAt rfl (nle rfl) ⟨nle rfl, nle rfl⟩ dX11_watch_106 ?_
                  rintro _ mz ⟨rfl, hz⟩
                  subst mz
                  refine go_c1 ?_
                  refine go_callS okmX11_told lmX11_232 ⟨nle rfl, nle rfl⟩ (ev_told) npmX11_told rfl (nle rfl) ⟨nle rfl, nle rfl⟩ dX11_watch_109 ?_
                  rintro _ mz ⟨rfl, hz⟩
                  subst mz
                  refine go_c1 ?_
                  refine go_goto (tgt := 116) dX11_watch_112 (by decide) ?_
                  refine go_iret rfl ⟨Nat.zero_le _, Nat.zero_le _⟩ dX11_watch_116 ?_
                  refine ⟨⟨_, rfl, Or.inl ⟨f, g, t, hVd, ?_⟩⟩, c1.cl⟩
                  have z := hW (nI j)
                  rw [pck_j (by omega) hn3, ← told_w hw (by omega)] at z
                  exact z
          · skip
            refine go_aload_n (q := 0) (i := 0) rfl rfl dX11_watch_0 ?_
            refine go_getR lf11_86 rfl hX.o hX.rp dX11_watch_1 ?_
            refine go_iload_n (q := 1) (i := 1) rfl rfl dX11_watch_4 ?_
            refine go_callV okmX7_toldCell lmX11_254 ⟨nle rfl, nle rfl⟩ hX.wp.o ⟨by decide, rfl⟩ (ev_toldCell hX.wp) npmX7_toldCell rfl (nle rfl) ⟨nle rfl, nle rfl⟩ dX11_watch_5 ?_
            rintro _ mz ⟨rfl, hz⟩
            subst mz
            rw [hP.wd, hP.rw, htx]
            refine go_c1 ?_
            refine go_istore (i := 5) dX11_watch_8 (nle rfl) (nle rfl) ?_
            refine go_aload_n (q := 0) (i := 0) rfl rfl dX11_watch_10 ?_
            refine go_getR lf11_86 rfl hX.o hX.rp dX11_watch_11 ?_
            refine go_iload_n (q := 2) (i := 2) rfl rfl dX11_watch_14 ?_
            refine go_callV okmX7_toldCell lmX11_254 ⟨nle rfl, nle rfl⟩ hX.wp.o ⟨by decide, rfl⟩ (ev_toldCell hX.wp) npmX7_toldCell rfl (nle rfl) ⟨nle rfl, nle rfl⟩ dX11_watch_15 ?_
            rintro _ mz ⟨rfl, hz⟩
            subst mz
            rw [hP.wd, hP.rw, hty]
            refine go_c1 ?_
            refine go_istore (i := 6) dX11_watch_18 (nle rfl) (nle rfl) ?_
            refine go_iload (i := 5) rfl dX11_watch_20 ?_
            refine gz_lt (by omega) (tgt := 56) dX11_watch_22 (by decide) (fun h22 => by exfalso; omega) (fun h22 => ?_)
            refine go_iload (i := 6) rfl dX11_watch_25 ?_
            refine gz_lt (by omega) (tgt := 56) dX11_watch_27 (by decide) (fun h27 => by exfalso; omega) (fun h27 => ?_)
            refine go_iload (i := 5) rfl dX11_watch_30 ?_
            refine go_iload (i := 6) rfl dX11_watch_32 ?_
            refine gn_eq (by omega) (by omega) (tgt := 56) dX11_watch_34 (by decide) (fun h34 => by exfalso; exact hfg h34.symm) (fun h34 => ?_)
            refine go_iload_n (q := 3) (i := 3) rfl rfl dX11_watch_37 ?_
            refine go_callS okmX11_isThick lmX11_235 ⟨nle rfl, nle rfl⟩ (ev_isThick) npmX11_isThick rfl (nle rfl) ⟨nle rfl, nle rfl⟩ dX11_watch_38 ?_
            rintro _ mz ⟨rfl, hz⟩
            subst mz
            rw [th_in, hth]
            refine go_c1 ?_
            refine gz_eq (by omega) (tgt := 56) dX11_watch_41 (by decide) (fun h41 => by exfalso; omega) (fun h41 => ?_)
            refine go_iload (i := 4) rfl dX11_watch_44 ?_
            refine go_iconst (v := -1) (by decide) dX11_watch_46 ?_
            refine go_icmp_lt (tgt := 56) dX11_watch_47 (by decide) (fun h47 => ?_) (fun h47 => ?_)
            · skip
              refine go_iconst (v := -1) (by decide) dX11_watch_56 ?_
              refine go_iret rfl ⟨Nat.zero_le _, Nat.zero_le _⟩ dX11_watch_57 ?_
              exact ⟨⟨_, rfl, Or.inr ⟨fun f' g' t' z => hio z.2.2.2.2.2.2.2.2.2, rfl⟩⟩, ClK.rf⟩
            · skip
              refine go_iload (i := 4) rfl dX11_watch_50 ?_
              refine go_iconst (v := nI 3) (by decide) dX11_watch_52 ?_
              refine go_icmp_lt (tgt := 58) dX11_watch_53 (by decide) (fun h53 => by exfalso; exact hio (i_ok h47 h53)) (fun h53 => ?_)
              refine go_iconst (v := -1) (by decide) dX11_watch_56 ?_
              refine go_iret rfl ⟨Nat.zero_le _, Nat.zero_le _⟩ dX11_watch_57 ?_
              exact ⟨⟨_, rfl, Or.inr ⟨fun f' g' t' z => hio z.2.2.2.2.2.2.2.2.2, rfl⟩⟩, ClK.rf⟩
