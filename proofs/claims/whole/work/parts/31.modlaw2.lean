theorem tmF_ind (code ci v v' : Nat → Int32) (hv : ∀ k, k < 9 → v k = v' k) : ∀ (n c t : Nat) (p p' : Nat → Int32), wfT code ci n c t → (∀ j, j < t → p j = p' j) → (tmF code ci v n c t p).1 = (tmF code ci v' n c t p').1 ∧ (tmF code ci v n c t p).2.1 = (tmF code ci v' n c t p').2.1 := by
  intro n
  induction n with
  | zero =>
    intro c t p p' hw h
    exact ⟨rfl, h 0 (by have : t = 1 := hw
                        omega)⟩
  | succ n ih =>
    intro c t p p' hw h
    rw [tmF_s, tmF_s]
    rcases hw with ⟨hc, ht4, hw2⟩ | ⟨hc, ht4, ⟨w, hw9, hwi⟩, hw2⟩ | ⟨hc, ht2, hw2⟩
    · rw [hc, if_pos (show nI 0 < nI 2 by decide), if_pos (show nI 0 < nI 2 by decide), if_pos (show nI 0 = 0 from rfl), if_pos (show nI 0 = 0 from rfl)]
      refine ih _ _ _ _ hw2 (fun j hj => ?_)
      unfold upd
      by_cases e : j = t
      · rw [if_pos e, if_pos e]
      · rw [if_neg e, if_neg e]; exact h j (by omega)
    · rw [hc, if_pos (show nI 1 < nI 2 by decide), if_pos (show nI 1 < nI 2 by decide), if_neg (show ¬ nI 1 = 0 by decide), if_neg (show ¬ nI 1 = 0 by decide), hwi, nI_clamp (by omega), hv w hw9]
      refine ih _ _ _ _ hw2 (fun j hj => ?_)
      unfold upd
      by_cases e : j = t
      · rw [if_pos e, if_pos e]
      · rw [if_neg e, if_neg e]; exact h j (by omega)
    · have hn2 : ¬ code c < nI 2 := by rcases hc with h | h | h | h <;> rw [h] <;> decide
      rw [if_neg hn2, if_neg hn2, h (t - 1) (by omega), h (t - 1 - 1) (by omega)]
      by_cases c6 : code c = nI 5 ∧ p' (t - 1) = 0
      · rw [if_pos c6, if_pos c6]; exact ⟨rfl, rfl⟩
      rw [if_neg c6, if_neg c6]
      refine ih _ _ _ _ hw2 (fun j hj => ?_)
      unfold upd
      by_cases e : j = t - 1 - 1
      · rw [if_pos e, if_pos e]
      · rw [if_neg e, if_neg e]; exact h j (by omega)
/-- a term's value: is it broken, how much -/
def tvF (code ci vars : Nat → Int32) (f n : Nat) : Bool × Int32 := ((tmF code ci vars n f 0 (fun _ => nI 0)).1, (tmF code ci vars n f 0 (fun _ => nI 0)).2.1)
/-- a law's value, by its branches -/
def lwF (ht code ci vars : Nat → Int32) (tf tm tt te : Nat → Nat) : Nat → Nat → Int32
  | 0, _ => nI 0
  | n + 1, b =>
    if ht b = 0 then (if (tvF code ci vars (tt b) (te b - tt b)).1 = true then nI 0 else (tvF code ci vars (tt b) (te b - tt b)).2)
    else if (tvF code ci vars (tf b) (tm b - tf b)).1 = true ∨ (tvF code ci vars (tm b) (tt b - tm b)).1 = true then nI 0
    else if (tvF code ci vars (tf b) (tm b - tf b)).2 < (tvF code ci vars (tm b) (tt b - tm b)).2 then (if (tvF code ci vars (tt b) (te b - tt b)).1 = true then nI 0 else (tvF code ci vars (tt b) (te b - tt b)).2)
    else lwF ht code ci vars tf tm tt te n (b + 1)
/-- what a law tells that was not told -/
def dfl (k : Nat) (v : Nat → Int32) : Int32 := if k = 0 then nI 0 else if k = 1 then v 0 / nI 4 else if k = 2 then nI 1 else v 7
def wfB (m : Me) (b f g h e : Nat) : Prop := gI m 308 b = nI h ∧ gI m 309 b = nI e ∧ h ≤ e ∧ e ≤ 840 ∧ wfT (gI m 310) (gI m 311) (e - h) h 0 ∧ (gI m 305 b = nI 0 ∨ (gI m 305 b = nI 1 ∧ gI m 306 b = nI f ∧ gI m 307 b = nI g ∧ f ≤ g ∧ g ≤ h ∧ wfT (gI m 310) (gI m 311) (g - f) f 0 ∧ wfT (gI m 310) (gI m 311) (h - g) g 0))
def LwM (m : Me) (P : Pl) (lv : Nat) : Prop := ∀ k, k < 4 → ∃ (a z : Nat) (tf tm tt te : Nat → Nat), a ≤ z ∧ z ≤ 260 ∧ gI m 303 (4 * lv + k) = nI a ∧ gI m 304 (4 * lv + k) = nI z ∧ (∀ b, a ≤ b → b < z → wfB m b (tf b) (tm b) (tt b) (te b)) ∧ ∀ v, P.lw k v = if a = z then dfl k v else lwF (gI m 305) (gI m 310) (gI m 311) v tf tm tt te (z - a) a
theorem LwM.keep {m m' : Me} {P : Pl} {lv : Nat} (h : LwM m P lv) (hk : ∀ x, 303 ≤ x → x ≤ 311 → gI m' x = gI m x) : LwM m' P lv := by
  intro k hk4
  obtain ⟨a, z, tf, tm, tt, te, h1, h2, h3, h4, h5, h6⟩ := h k hk4
  refine ⟨a, z, tf, tm, tt, te, h1, h2, by rw [hk _ (by decide) (by decide)]; exact h3, by rw [hk _ (by decide) (by decide)]; exact h4, fun b q1 q2 => ?_, fun v => ?_⟩
  · have := h5 b q1 q2
    unfold wfB
    rw [hk 308 (by decide) (by decide), hk 309 (by decide) (by decide), hk 310 (by decide) (by decide), hk 311 (by decide) (by decide), hk 305 (by decide) (by decide), hk 306 (by decide) (by decide), hk 307 (by decide) (by decide)]
    exact this
  · rw [hk 305 (by decide) (by decide), hk 310 (by decide) (by decide), hk 311 (by decide) (by decide)]
    exact h6 v
/-- a run of the reference's laws: only its variables' pile and its mark are others -/
def Cb (m m' : Me) : Prop := Ch (fun x => x = 274 ∨ x = 314) m m' ∧ ∀ k, k ≠ 57 → gI m' 274 k = gI m 274 k
theorem Cb.tr {m m' m'' : Me} (h : Cb m m') (k : Cb m' m'') : Cb m m'' := ⟨h.1.tr k.1, fun x hx => (k.2 x hx).trans (h.2 x hx)⟩
/-- a term, its value alone -/
theorem ex_term {m : Me} {f g : Nat} (hx : Wf12 m.1 (gR m)) (hfg : f ≤ g) (hg : g ≤ 840) (hw : wfT (gI m 310) (gI m 311) (g - f) f 0) : Ev mX12_termOf [.ref 274, .int (nI f), .int (nI g)] m (fun r m' => r = some (.int (tvF (gI m 310) (gI m 311) (gI m 313) f (g - f)).2) ∧ Cb m m' ∧ gI m' 274 57 = if (tvF (gI m 310) (gI m 311) (gI m 313) f (g - f)).1 = true then nI 1 else gI m 274 57) := by
  have e : g = f + (g - f) := by omega
  have h := ex_termOf (f := f) (n := g - f) hx (by omega) hw
  rw [← e] at h
  refine h.mono ?_
  rintro r m' ⟨rfl, rfl⟩
  have hi := tmF_ind (gI m 310) (gI m 311) (gI m 313) (gI m 313) (fun _ _ => rfl) (g - f) f 0 (gI m 314) (fun _ => nI 0) hw (fun j hj => absurd hj (Nat.not_lt_zero j))
  refine ⟨by rw [hi.2]; rfl, ⟨(Ch.I (Or.inr rfl)).tr (Ch.I (Or.inl rfl)), fun k hk => ?_⟩, ?_⟩
  · rw [gI_s]
    split
    · exact if_neg hk
    · rfl
  · rw [gI_s, hi.1]
    show (if (tvF (gI m 310) (gI m 311) (gI m 313) f (g - f)).1 = true then upd (gI m 274) 57 (nI 1) else gI m 274) 57 = _
    split
    · exact if_pos rfl
    · rfl
set_option maxRecDepth 100000 in
set_option maxHeartbeats 8000000 in
/-- lawTells -/
theorem ex_lawTells {m : Me} {P : Pl} {lv k : Nat} {pn : Int32} (hx : Wf12 m.1 (gR m)) (hl : gI m 274 18 = nI lv) (hlv2 : lv < 2) (hk : k < 4) (hL : LwM m P lv) (hpn : pn = dfl k (gI m 313)) : Ev mX12_lawTells [.ref 274, .int (nI k), .int pn] m (fun r m' => r = some (.int (P.lw k (gI m 313))) ∧ Cb m m') := by
  refine ⟨plmX12_lawTells, nle rfl, ?_⟩
  have hx0 := hx
  obtain ⟨a, z, tf, tm, tt, te, haz, hz, h3, h4, hB, hP⟩ := hL k hk
  rw [hP (gI m 313)]
  generalize hres : (if a = z then dfl k (gI m 313) else lwF (gI m 305) (gI m 310) (gI m 311) (gI m 313) tf tm tt te (z - a) a) = res
  have key : ∀ i, i ≤ z - a → ∀ (mi : Me) (x5 x6 : Option Value), Cb m mi → gI mi 274 57 = nI 0 → lwF (gI m 305) (gI m 310) (gI m 311) (gI m 313) tf tm tt te (z - a - i) (a + i) = res → Go mX12_lawTells (fun r m' => r = some (.int res) ∧ Cb m m') 39 [some (.ref 274), some (.int (nI k)), some (.int pn), some (.int (nI (4 * lv + k))), some (.int (nI (a + i))), x5, x6] [] mi 0 0 := by
    refine loop_up (z - a) ?_ ?_
    · intro mi x5 x6 hc hz57 he
      have hx := Ch.to (F := fun n R => Wf12 n R) hc.1 hx0
      have e3 : gI mi 303 = gI m 303 := hc.1.at (by decide)
      have e4 : gI mi 304 = gI m 304 := hc.1.at (by decide)
      have hlv : gI mi 274 18 = nI lv := by rw [hc.2 18 (by decide)]; exact hl
      rw [Nat.sub_self] at he
      refine go_iload (i := 4) rfl dX12_lawTells_39 ?_
      refine go_aload_n (q := 0) (i := 0) rfl rfl dX12_lawTells_41 ?_
      refine go_getR lf12_106 rfl hx.o hx.r43 dX12_lawTells_42 ?_
      refine go_iload_n (q := 3) (i := 3) rfl rfl dX12_lawTells_45 ?_
      refine go_iald (j := (4 * lv + k)) hx.i43 (by omega) (by first | decide | omega) rfl dX12_lawTells_46 ?_
      rw [e4, h4]
      refine gn_ge (by omega) (by omega) (tgt := 159) dX12_lawTells_47 (by decide) (fun h47 => ?_) (fun h47 => by exfalso; omega)
      refine go_iconst (v := nI 0) (by decide) dX12_lawTells_159 ?_
      refine go_iret rfl ⟨Nat.zero_le _, Nat.zero_le _⟩ dX12_lawTells_160 ?_
      exact ⟨by rw [← he]; rfl, hc⟩
    · intro i hi ih mi x5 x6 hc hz57 he
      have hx := Ch.to (F := fun n R => Wf12 n R) hc.1 hx0
      have e3 : gI mi 303 = gI m 303 := hc.1.at (by decide)
      have e4 : gI mi 304 = gI m 304 := hc.1.at (by decide)
      have hlv : gI mi 274 18 = nI lv := by rw [hc.2 18 (by decide)]; exact hl
      rw [show z - a - i = (z - a - (i + 1)) + 1 by omega] at he
      obtain ⟨g8, g9, g10, g11, g12, g13⟩ := hB (a + i) (by omega) (by omega)
      generalize hb : a + i = b at g8 g9 g10 g11 g12 g13 he ⊢
      have e305mi : gI mi 305 = gI m 305 := hc.1.at (by decide)
      have e306mi : gI mi 306 = gI m 306 := hc.1.at (by decide)
      have e307mi : gI mi 307 = gI m 307 := hc.1.at (by decide)
      have e308mi : gI mi 308 = gI m 308 := hc.1.at (by decide)
      have e309mi : gI mi 309 = gI m 309 := hc.1.at (by decide)
      have e310mi : gI mi 310 = gI m 310 := hc.1.at (by decide)
      have e311mi : gI mi 311 = gI m 311 := hc.1.at (by decide)
      have e313mi : gI mi 313 = gI m 313 := hc.1.at (by decide)
      rw [show lwF (gI m 305) (gI m 310) (gI m 311) (gI m 313) tf tm tt te (z - a - (i + 1) + 1) b = (if gI m 305 b = 0 then (if (tvF (gI m 310) (gI m 311) (gI m 313) (tt b) (te b - tt b)).1 = true then nI 0 else (tvF (gI m 310) (gI m 311) (gI m 313) (tt b) (te b - tt b)).2) else if (tvF (gI m 310) (gI m 311) (gI m 313) (tf b) (tm b - tf b)).1 = true ∨ (tvF (gI m 310) (gI m 311) (gI m 313) (tm b) (tt b - tm b)).1 = true then nI 0 else if (tvF (gI m 310) (gI m 311) (gI m 313) (tf b) (tm b - tf b)).2 < (tvF (gI m 310) (gI m 311) (gI m 313) (tm b) (tt b - tm b)).2 then (if (tvF (gI m 310) (gI m 311) (gI m 313) (tt b) (te b - tt b)).1 = true then nI 0 else (tvF (gI m 310) (gI m 311) (gI m 313) (tt b) (te b - tt b)).2) else lwF (gI m 305) (gI m 310) (gI m 311) (gI m 313) tf tm tt te (z - a - (i + 1)) (b + 1)) from rfl] at he
      rcases g13 with g5 | ⟨g5, g6, g7, q1, q2, w1, w2⟩
      · skip
        refine go_iload (i := 4) rfl dX12_lawTells_39 ?_
        refine go_aload_n (q := 0) (i := 0) rfl rfl dX12_lawTells_41 ?_
        refine go_getR lf12_106 rfl hx.o hx.r43 dX12_lawTells_42 ?_
        refine go_iload_n (q := 3) (i := 3) rfl rfl dX12_lawTells_45 ?_
        refine go_iald (j := (4 * lv + k)) hx.i43 (by omega) (by first | decide | omega) rfl dX12_lawTells_46 ?_
        rw [e4, h4]
        refine gn_ge (by omega) (by omega) (tgt := 159) dX12_lawTells_47 (by decide) (fun h47 => by exfalso; omega) (fun h47 => ?_)
        refine go_aload_n (q := 0) (i := 0) rfl rfl dX12_lawTells_50 ?_
        refine go_getR lf12_109 rfl hx.o hx.r45 dX12_lawTells_51 ?_
        refine go_iload (i := 4) rfl dX12_lawTells_54 ?_
        refine go_zald (j := b) hx.i45 (by omega) (by first | decide | omega) rfl dX12_lawTells_56 ?_
        rw [e305mi, g5]
        refine gz_eq (by omega) (tgt := 119) dX12_lawTells_57 (by decide) (fun h57 => ?_) (fun h57 => by exfalso; omega)
        refine go_aload_n (q := 0) (i := 0) rfl rfl dX12_lawTells_119 ?_
        refine go_aload_n (q := 0) (i := 0) rfl rfl dX12_lawTells_120 ?_
        refine go_getR lf12_119 rfl hx.o hx.r48 dX12_lawTells_121 ?_
        refine go_iload (i := 4) rfl dX12_lawTells_124 ?_
        refine go_iald (j := b) hx.i48 (by omega) (by first | decide | omega) rfl dX12_lawTells_126 ?_
        rw [e308mi, g8]
        refine go_aload_n (q := 0) (i := 0) rfl rfl dX12_lawTells_127 ?_
        refine go_getR lf12_122 rfl hx.o hx.r49 dX12_lawTells_128 ?_
        refine go_iload (i := 4) rfl dX12_lawTells_131 ?_
        refine go_iald (j := b) hx.i49 (by omega) (by first | decide | omega) rfl dX12_lawTells_133 ?_
        rw [e309mi, g9]
        refine go_callV okmX12_termOf lmX12_375 ⟨nle rfl, nle rfl⟩ hx.o ⟨by decide, rfl⟩ (ex_term (m := mi) hx g10 g11 (by rw [e310mi, e311mi]; exact g12)) npmX12_termOf rfl (nle rfl) ⟨nle rfl, nle rfl⟩ dX12_lawTells_134 ?_
        rintro _ m1 ⟨rfl, hsm1, hbm1⟩
        have hcm1 : Cb m m1 := hc.tr hsm1
        rw [e310mi, e311mi, e313mi] at hbm1 ⊢
        have hx := Ch.to (F := fun n R => Wf12 n R) hcm1.1 hx0
        have e305m1 : gI m1 305 = gI m 305 := hcm1.1.at (by decide)
        have e306m1 : gI m1 306 = gI m 306 := hcm1.1.at (by decide)
        have e307m1 : gI m1 307 = gI m 307 := hcm1.1.at (by decide)
        have e308m1 : gI m1 308 = gI m 308 := hcm1.1.at (by decide)
        have e309m1 : gI m1 309 = gI m 309 := hcm1.1.at (by decide)
        have e310m1 : gI m1 310 = gI m 310 := hcm1.1.at (by decide)
        have e311m1 : gI m1 311 = gI m 311 := hcm1.1.at (by decide)
        have e313m1 : gI m1 313 = gI m 313 := hcm1.1.at (by decide)
        refine go_c1 ?_
        by_cases hbr : (tvF (gI m 310) (gI m 311) (gI m 313) (tt b) (te b - tt b)).1 = true
        · skip
          refine go_istore (i := 5) dX12_lawTells_137 (nle rfl) (nle rfl) ?_
          refine go_aload_n (q := 0) (i := 0) rfl rfl dX12_lawTells_139 ?_
          refine go_getZ lf12_357 rfl hx.o dX12_lawTells_140 ?_
          rw [hbm1, if_pos hbr]
          refine gz_eq (by omega) (tgt := 150) dX12_lawTells_143 (by decide) (fun h143 => by exfalso; omega) (fun h143 => ?_)
          refine go_iconst (v := nI 0) (by decide) dX12_lawTells_146 ?_
          refine go_goto (tgt := 152) dX12_lawTells_147 (by decide) ?_
          refine go_iret rfl ⟨Nat.zero_le _, Nat.zero_le _⟩ dX12_lawTells_152 ?_
          rw [g5, if_pos (show nI 0 = 0 from rfl)] at he
          rw [if_pos hbr] at he
          rw [← he]
          exact ⟨rfl, hcm1⟩
        · skip
          refine go_istore (i := 5) dX12_lawTells_137 (nle rfl) (nle rfl) ?_
          refine go_aload_n (q := 0) (i := 0) rfl rfl dX12_lawTells_139 ?_
          refine go_getZ lf12_357 rfl hx.o dX12_lawTells_140 ?_
          rw [hbm1, if_neg hbr, hz57]
          refine gz_eq (by omega) (tgt := 150) dX12_lawTells_143 (by decide) (fun h143 => ?_) (fun h143 => by exfalso; omega)
          refine go_iload (i := 5) rfl dX12_lawTells_150 ?_
          refine go_iret rfl ⟨Nat.zero_le _, Nat.zero_le _⟩ dX12_lawTells_152 ?_
          rw [g5, if_pos (show nI 0 = 0 from rfl)] at he
          rw [if_neg hbr] at he
          rw [← he]
          exact ⟨rfl, hcm1⟩
      · skip
        refine go_iload (i := 4) rfl dX12_lawTells_39 ?_
        refine go_aload_n (q := 0) (i := 0) rfl rfl dX12_lawTells_41 ?_
        refine go_getR lf12_106 rfl hx.o hx.r43 dX12_lawTells_42 ?_
        refine go_iload_n (q := 3) (i := 3) rfl rfl dX12_lawTells_45 ?_
        refine go_iald (j := (4 * lv + k)) hx.i43 (by omega) (by first | decide | omega) rfl dX12_lawTells_46 ?_
        rw [e4, h4]
        refine gn_ge (by omega) (by omega) (tgt := 159) dX12_lawTells_47 (by decide) (fun h47 => by exfalso; omega) (fun h47 => ?_)
        refine go_aload_n (q := 0) (i := 0) rfl rfl dX12_lawTells_50 ?_
        refine go_getR lf12_109 rfl hx.o hx.r45 dX12_lawTells_51 ?_
        refine go_iload (i := 4) rfl dX12_lawTells_54 ?_
        refine go_zald (j := b) hx.i45 (by omega) (by first | decide | omega) rfl dX12_lawTells_56 ?_
        rw [e305mi, g5]
        refine gz_eq (by omega) (tgt := 119) dX12_lawTells_57 (by decide) (fun h57 => by exfalso; omega) (fun h57 => ?_)
        refine go_aload_n (q := 0) (i := 0) rfl rfl dX12_lawTells_60 ?_
        refine go_aload_n (q := 0) (i := 0) rfl rfl dX12_lawTells_61 ?_
        refine go_getR lf12_113 rfl hx.o hx.r46 dX12_lawTells_62 ?_
        refine go_iload (i := 4) rfl dX12_lawTells_65 ?_
        refine go_iald (j := b) hx.i46 (by omega) (by first | decide | omega) rfl dX12_lawTells_67 ?_
        rw [e306mi, g6]
        refine go_aload_n (q := 0) (i := 0) rfl rfl dX12_lawTells_68 ?_
        refine go_getR lf12_116 rfl hx.o hx.r47 dX12_lawTells_69 ?_
        refine go_iload (i := 4) rfl dX12_lawTells_72 ?_
        refine go_iald (j := b) hx.i47 (by omega) (by first | decide | omega) rfl dX12_lawTells_74 ?_
        rw [e307mi, g7]
        refine go_callV okmX12_termOf lmX12_375 ⟨nle rfl, nle rfl⟩ hx.o ⟨by decide, rfl⟩ (ex_term (m := mi) hx q1 (by omega) (by rw [e310mi, e311mi]; exact w1)) npmX12_termOf rfl (nle rfl) ⟨nle rfl, nle rfl⟩ dX12_lawTells_75 ?_
        rintro _ m1 ⟨rfl, hsm1, hbm1⟩
        have hcm1 : Cb m m1 := hc.tr hsm1
        rw [e310mi, e311mi, e313mi] at hbm1 ⊢
        have hx := Ch.to (F := fun n R => Wf12 n R) hcm1.1 hx0
        have e305m1 : gI m1 305 = gI m 305 := hcm1.1.at (by decide)
        have e306m1 : gI m1 306 = gI m 306 := hcm1.1.at (by decide)
        have e307m1 : gI m1 307 = gI m 307 := hcm1.1.at (by decide)
        have e308m1 : gI m1 308 = gI m 308 := hcm1.1.at (by decide)
        have e309m1 : gI m1 309 = gI m 309 := hcm1.1.at (by decide)
        have e310m1 : gI m1 310 = gI m 310 := hcm1.1.at (by decide)
        have e311m1 : gI m1 311 = gI m 311 := hcm1.1.at (by decide)
        have e313m1 : gI m1 313 = gI m 313 := hcm1.1.at (by decide)
        refine go_c1 ?_
        refine go_istore (i := 5) dX12_lawTells_78 (nle rfl) (nle rfl) ?_
        refine go_aload_n (q := 0) (i := 0) rfl rfl dX12_lawTells_80 ?_
        refine go_aload_n (q := 0) (i := 0) rfl rfl dX12_lawTells_81 ?_
        refine go_getR lf12_116 rfl hx.o hx.r47 dX12_lawTells_82 ?_
        refine go_iload (i := 4) rfl dX12_lawTells_85 ?_
        refine go_iald (j := b) hx.i47 (by omega) (by first | decide | omega) rfl dX12_lawTells_87 ?_
        rw [e307m1, g7]
        refine go_aload_n (q := 0) (i := 0) rfl rfl dX12_lawTells_88 ?_
        refine go_getR lf12_119 rfl hx.o hx.r48 dX12_lawTells_89 ?_
        refine go_iload (i := 4) rfl dX12_lawTells_92 ?_
        refine go_iald (j := b) hx.i48 (by omega) (by first | decide | omega) rfl dX12_lawTells_94 ?_
        rw [e308m1, g8]
        refine go_callV okmX12_termOf lmX12_375 ⟨nle rfl, nle rfl⟩ hx.o ⟨by decide, rfl⟩ (ex_term (m := m1) hx q2 (by omega) (by rw [e310m1, e311m1]; exact w2)) npmX12_termOf rfl (nle rfl) ⟨nle rfl, nle rfl⟩ dX12_lawTells_95 ?_
        rintro _ m2 ⟨rfl, hsm2, hbm2⟩
        have hcm2 : Cb m m2 := hcm1.tr hsm2
        rw [e310m1, e311m1, e313m1] at hbm2 ⊢
        have hx := Ch.to (F := fun n R => Wf12 n R) hcm2.1 hx0
        have e305m2 : gI m2 305 = gI m 305 := hcm2.1.at (by decide)
        have e306m2 : gI m2 306 = gI m 306 := hcm2.1.at (by decide)
        have e307m2 : gI m2 307 = gI m 307 := hcm2.1.at (by decide)
        have e308m2 : gI m2 308 = gI m 308 := hcm2.1.at (by decide)
        have e309m2 : gI m2 309 = gI m 309 := hcm2.1.at (by decide)
        have e310m2 : gI m2 310 = gI m 310 := hcm2.1.at (by decide)
        have e311m2 : gI m2 311 = gI m 311 := hcm2.1.at (by decide)
        have e313m2 : gI m2 313 = gI m 313 := hcm2.1.at (by decide)
        refine go_c1 ?_
        refine go_istore (i := 6) dX12_lawTells_98 (nle rfl) (nle rfl) ?_
        by_cases hbt : (tvF (gI m 310) (gI m 311) (gI m 313) (tf b) (tm b - tf b)).1 = true ∨ (tvF (gI m 310) (gI m 311) (gI m 313) (tm b) (tt b - tm b)).1 = true
        · have z57 : gI m2 274 57 = nI 1 := by
            rw [hbm2, hbm1]
            by_cases q9 : (tvF (gI m 310) (gI m 311) (gI m 313) (tm b) (tt b - tm b)).1 = true
            · rw [if_pos q9]
            · rw [if_neg q9, if_pos (hbt.resolve_right q9)]
          refine go_aload_n (q := 0) (i := 0) rfl rfl dX12_lawTells_100 ?_
          refine go_getZ lf12_357 rfl hx.o dX12_lawTells_101 ?_
          rw [z57]
          refine gz_eq (by omega) (tgt := 109) dX12_lawTells_104 (by decide) (fun h104 => by exfalso; omega) (fun h104 => ?_)
          refine go_iconst (v := nI 0) (by decide) dX12_lawTells_107 ?_
          refine go_iret rfl ⟨Nat.zero_le _, Nat.zero_le _⟩ dX12_lawTells_108 ?_
          rw [g5, if_neg (show ¬ nI 1 = 0 by decide)] at he
          rw [if_pos hbt] at he
          rw [← he]
          exact ⟨rfl, hcm2⟩
        · have z57 : gI m2 274 57 = nI 0 := by
            rw [hbm2, hbm1, if_neg (fun q => hbt (Or.inr q)), if_neg (fun q => hbt (Or.inl q))]; exact hz57
          refine go_aload_n (q := 0) (i := 0) rfl rfl dX12_lawTells_100 ?_
          refine go_getZ lf12_357 rfl hx.o dX12_lawTells_101 ?_
          rw [z57]
          refine gz_eq (by omega) (tgt := 109) dX12_lawTells_104 (by decide) (fun h104 => ?_) (fun h104 => by exfalso; omega)
          refine go_iload (i := 5) rfl dX12_lawTells_109 ?_
          refine go_iload (i := 6) rfl dX12_lawTells_111 ?_
          refine go_icmp_lt (tgt := 119) dX12_lawTells_113 (by decide) (fun h113 => ?_) (fun h113 => ?_)
          · skip
            refine go_aload_n (q := 0) (i := 0) rfl rfl dX12_lawTells_119 ?_
            refine go_aload_n (q := 0) (i := 0) rfl rfl dX12_lawTells_120 ?_
            refine go_getR lf12_119 rfl hx.o hx.r48 dX12_lawTells_121 ?_
            refine go_iload (i := 4) rfl dX12_lawTells_124 ?_
            refine go_iald (j := b) hx.i48 (by omega) (by first | decide | omega) rfl dX12_lawTells_126 ?_
            rw [e308m2, g8]
            refine go_aload_n (q := 0) (i := 0) rfl rfl dX12_lawTells_127 ?_
            refine go_getR lf12_122 rfl hx.o hx.r49 dX12_lawTells_128 ?_
            refine go_iload (i := 4) rfl dX12_lawTells_131 ?_
            refine go_iald (j := b) hx.i49 (by omega) (by first | decide | omega) rfl dX12_lawTells_133 ?_
            rw [e309m2, g9]
            refine go_callV okmX12_termOf lmX12_375 ⟨nle rfl, nle rfl⟩ hx.o ⟨by decide, rfl⟩ (ex_term (m := m2) hx g10 g11 (by rw [e310m2, e311m2]; exact g12)) npmX12_termOf rfl (nle rfl) ⟨nle rfl, nle rfl⟩ dX12_lawTells_134 ?_
            rintro _ m3 ⟨rfl, hsm3, hbm3⟩
            have hcm3 : Cb m m3 := hcm2.tr hsm3
            rw [e310m2, e311m2, e313m2] at hbm3 ⊢
            have hx := Ch.to (F := fun n R => Wf12 n R) hcm3.1 hx0
            have e305m3 : gI m3 305 = gI m 305 := hcm3.1.at (by decide)
            have e306m3 : gI m3 306 = gI m 306 := hcm3.1.at (by decide)
            have e307m3 : gI m3 307 = gI m 307 := hcm3.1.at (by decide)
            have e308m3 : gI m3 308 = gI m 308 := hcm3.1.at (by decide)
            have e309m3 : gI m3 309 = gI m 309 := hcm3.1.at (by decide)
            have e310m3 : gI m3 310 = gI m 310 := hcm3.1.at (by decide)
            have e311m3 : gI m3 311 = gI m 311 := hcm3.1.at (by decide)
            have e313m3 : gI m3 313 = gI m 313 := hcm3.1.at (by decide)
            refine go_c1 ?_
            by_cases hbr : (tvF (gI m 310) (gI m 311) (gI m 313) (tt b) (te b - tt b)).1 = true
            · skip
              refine go_istore (i := 5) dX12_lawTells_137 (nle rfl) (nle rfl) ?_
              refine go_aload_n (q := 0) (i := 0) rfl rfl dX12_lawTells_139 ?_
              refine go_getZ lf12_357 rfl hx.o dX12_lawTells_140 ?_
              rw [hbm3, if_pos hbr]
              refine gz_eq (by omega) (tgt := 150) dX12_lawTells_143 (by decide) (fun h143 => by exfalso; omega) (fun h143 => ?_)
              refine go_iconst (v := nI 0) (by decide) dX12_lawTells_146 ?_
              refine go_goto (tgt := 152) dX12_lawTells_147 (by decide) ?_
              refine go_iret rfl ⟨Nat.zero_le _, Nat.zero_le _⟩ dX12_lawTells_152 ?_
              rw [g5, if_neg (show ¬ nI 1 = 0 by decide)] at he
              rw [if_neg hbt] at he
              rw [if_pos h113] at he
              rw [if_pos hbr] at he
              rw [← he]
              exact ⟨rfl, hcm3⟩
            · skip
              refine go_istore (i := 5) dX12_lawTells_137 (nle rfl) (nle rfl) ?_
              refine go_aload_n (q := 0) (i := 0) rfl rfl dX12_lawTells_139 ?_
              refine go_getZ lf12_357 rfl hx.o dX12_lawTells_140 ?_
              rw [hbm3, if_neg hbr, z57]
              refine gz_eq (by omega) (tgt := 150) dX12_lawTells_143 (by decide) (fun h143 => ?_) (fun h143 => by exfalso; omega)
              refine go_iload (i := 5) rfl dX12_lawTells_150 ?_
              refine go_iret rfl ⟨Nat.zero_le _, Nat.zero_le _⟩ dX12_lawTells_152 ?_
              rw [g5, if_neg (show ¬ nI 1 = 0 by decide)] at he
              rw [if_neg hbt] at he
              rw [if_pos h113] at he
              rw [if_neg hbr] at he
              rw [← he]
              exact ⟨rfl, hcm3⟩
          · skip
            refine go_goto (tgt := 153) dX12_lawTells_116 (by decide) ?_
            refine gn_inc (i := 4) (a := b) (q := 1) rfl dX12_lawTells_153 (nle rfl) rfl ?_
            refine go_goto (tgt := 39) dX12_lawTells_156 (by decide) ?_
            rw [show b + 1 = a + (i + 1) by omega]
            rw [g5, if_neg (show ¬ nI 1 = 0 by decide), if_neg hbt, if_neg h113] at he
            refine ih m2 _ _ hcm2 z57 ?_
            rw [show z - a - (i + 1) = z - a - (i + 1) from rfl, show a + (i + 1) = b + 1 by omega]
            exact he
  by_cases haz2 : a = z
  · rw [if_pos haz2] at hres
    refine go_iconst (v := nI 4) (by decide) dX12_lawTells_0 ?_
    refine go_aload_n (q := 0) (i := 0) rfl rfl dX12_lawTells_1 ?_
    refine go_getI lf12_260 rfl hx.o dX12_lawTells_2 ?_
    rw [hl]
    refine gn_mul dX12_lawTells_5 ?_
    refine go_iload_n (q := 1) (i := 1) rfl rfl dX12_lawTells_6 ?_
    refine gn_add dX12_lawTells_7 ?_
    refine go_istore_n (q := 3) (i := 3) rfl dX12_lawTells_8 (nle rfl) (nle rfl) ?_
    refine go_aload_n (q := 0) (i := 0) rfl rfl dX12_lawTells_9 ?_
    refine go_getR lf12_103 rfl hx.o hx.r42 dX12_lawTells_10 ?_
    refine go_iload_n (q := 3) (i := 3) rfl rfl dX12_lawTells_13 ?_
    refine go_iald (j := ((4 * lv) + k)) hx.i42 (by omega) (by first | decide | omega) rfl dX12_lawTells_14 ?_
    rw [h3]
    refine go_aload_n (q := 0) (i := 0) rfl rfl dX12_lawTells_15 ?_
    refine go_getR lf12_106 rfl hx.o hx.r43 dX12_lawTells_16 ?_
    refine go_iload_n (q := 3) (i := 3) rfl rfl dX12_lawTells_19 ?_
    refine go_iald (j := ((4 * lv) + k)) hx.i43 (by omega) (by first | decide | omega) rfl dX12_lawTells_20 ?_
    rw [h4]
    refine gn_ne (by omega) (by omega) (tgt := 26) dX12_lawTells_21 (by decide) (fun h21 => by exfalso; omega) (fun h21 => ?_)
    refine go_iload_n (q := 2) (i := 2) rfl rfl dX12_lawTells_24 ?_
    refine go_iret rfl ⟨Nat.zero_le _, Nat.zero_le _⟩ dX12_lawTells_25 ?_
    exact ⟨by rw [← hres, hpn], Ch.rf, fun _ _ => rfl⟩
  · rw [if_neg haz2] at hres
    have hc0 : Cb m (sI m 274 (upd (gI m 274) 57 (nI 0))) := ⟨Ch.I (Or.inl rfl), fun k hk => by rw [gI_s]; exact if_neg hk⟩
    have k0 := key 0 (Nat.zero_le _) (sI m 274 (upd (gI m 274) 57 (nI 0))) none none hc0 (by rw [gI_s]; exact if_pos rfl) hres
    refine go_iconst (v := nI 4) (by decide) dX12_lawTells_0 ?_
    refine go_aload_n (q := 0) (i := 0) rfl rfl dX12_lawTells_1 ?_
    refine go_getI lf12_260 rfl hx.o dX12_lawTells_2 ?_
    rw [hl]
    refine gn_mul dX12_lawTells_5 ?_
    refine go_iload_n (q := 1) (i := 1) rfl rfl dX12_lawTells_6 ?_
    refine gn_add dX12_lawTells_7 ?_
    refine go_istore_n (q := 3) (i := 3) rfl dX12_lawTells_8 (nle rfl) (nle rfl) ?_
    refine go_aload_n (q := 0) (i := 0) rfl rfl dX12_lawTells_9 ?_
    refine go_getR lf12_103 rfl hx.o hx.r42 dX12_lawTells_10 ?_
    refine go_iload_n (q := 3) (i := 3) rfl rfl dX12_lawTells_13 ?_
    refine go_iald (j := ((4 * lv) + k)) hx.i42 (by omega) (by first | decide | omega) rfl dX12_lawTells_14 ?_
    rw [h3]
    refine go_aload_n (q := 0) (i := 0) rfl rfl dX12_lawTells_15 ?_
    refine go_getR lf12_106 rfl hx.o hx.r43 dX12_lawTells_16 ?_
    refine go_iload_n (q := 3) (i := 3) rfl rfl dX12_lawTells_19 ?_
    refine go_iald (j := ((4 * lv) + k)) hx.i43 (by omega) (by first | decide | omega) rfl dX12_lawTells_20 ?_
    rw [h4]
    refine gn_ne (by omega) (by omega) (tgt := 26) dX12_lawTells_21 (by decide) (fun h21 => ?_) (fun h21 => by exfalso; omega)
    refine go_aload_n (q := 0) (i := 0) rfl rfl dX12_lawTells_26 ?_
    refine go_iconst (v := nI 0) (by decide) dX12_lawTells_27 ?_
    refine go_putZ lf12_357 rfl ⟨by decide, by decide⟩ (Or.inl rfl) hx.o dX12_lawTells_28 ?_
    refine go_aload_n (q := 0) (i := 0) rfl rfl dX12_lawTells_31 ?_
    refine go_getR lf12_103 rfl hx.o hx.r42 dX12_lawTells_32 ?_
    refine go_iload_n (q := 3) (i := 3) rfl rfl dX12_lawTells_35 ?_
    refine go_iald (j := ((4 * lv) + k)) hx.i42 (by omega) (by first | decide | omega) rfl dX12_lawTells_36 ?_
    rw [hc0.1.at (show ¬ (303 = 274 ∨ 303 = 314) by decide), h3]
    refine go_istore (i := 4) dX12_lawTells_37 (nle rfl) (nle rfl) ?_
    exact k0
