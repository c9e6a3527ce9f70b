theorem pz' {p : Prop} : pit p (nI 0) (nI 1) = 0 ↔ p := by
  constructor
  · intro h
    refine Classical.byContradiction (fun q => ?_)
    rw [pit_f q] at h
    exact absurd h (by decide)
  · intro h
    rw [pit_t h]; exact nI_0
/-- may a name be watched -/
def mN (q : Nat → Prop) (f g n : Nat) : Prop := ∃ c, n = nm c ∧ may q f g c
theorem nm_mono {a b : Nat} : nm a < nm b ↔ a < b := by unfold nm; omega
theorem wW_1 {c : Nat} {v : Int32} (h : v = -1) : ¬ v = nI (nm c) ∨ 40 ≤ c := by
  by_cases q : c < 40
  · left; rw [h]; exact i1m _ (by have := nm_lt q; omega)
  · right; omega
theorem wW_2 {a c : Nat} {v : Int32} (ha : a < 40) (hc : c < 40) (h : v = nI (nm a)) : v = nI (nm c) ↔ c = a := by
  rw [h]
  constructor
  · intro z; exact (nm_inj ((nI_eq (by have := nm_lt ha; omega) (by have := nm_lt hc; omega)).mp z)).symm
  · intro z; rw [z]
theorem Gd_c {q : Nat → Prop} {f g : Nat} {w w' : Nat → Prop} (h : ∀ c, q c → (w c ↔ w' c)) : Gd q f g w ↔ Gd q f g w' := Cut_c (fun c => and_congr_right (fun z => not_congr (h c z)))
set_option maxRecDepth 100000 in
set_option maxHeartbeats 8000000 in
theorem ex_mayWatch {m : Me} {P : Pl} {lv : Nat} (hx : Wf12 m.1 (gR m)) (hm : MdC m P lv) (ok : PlOk P) {f g t : Nat} (hf4 : f < 40) (hg4 : g < 40) (hlf : ld P f) (hlg : ld P g) (hfg : ¬ g = f) (ht : t ≤ 99) {n : Nat} (hn : n < 100) : Ev mX12_mayWatch [.ref 274, .int (nI n), .int (nI (nm f)), .int (nI (nm g)), .int (nI t)] m (fun o m' => o = some (.int (pit (mN (qS P (gI m 316) t) f g n) (nI 1) (nI 0))) ∧ m' = m) := by
  refine ⟨plmX12_mayWatch, nle rfl, ?_⟩
  have hnf := nm_lt hf4
  have hng := nm_lt hg4
  rcases tc_c ok (nI n) with ⟨-, hix, hnx⟩ | ⟨c, hc4, hlc, ec, -, hix⟩
  · skip
    refine go_aload_n (q := 0) (i := 0) rfl rfl dX12_mayWatch_0 ?_
    refine go_iload_n (q := 1) (i := 1) rfl rfl dX12_mayWatch_1 ?_
    refine go_callV okmX12_isAt lmX12_462 ⟨nle rfl, nle rfl⟩ hx.o ⟨by decide, rfl⟩ (ex_isAt hx hm) npmX12_isAt rfl (nle rfl) ⟨nle rfl, nle rfl⟩ dX12_mayWatch_2 ?_
    rintro _ mz ⟨rfl, hz⟩
    subst mz
    rw [hix]
    refine go_c1 ?_
    refine gz_eq (by omega) (tgt := 44) dX12_mayWatch_5 (by decide) (fun h5 => ?_) (fun h5 => by exfalso; omega)
    refine go_iconst (v := nI 0) (by decide) dX12_mayWatch_44 ?_
    refine go_zret rfl (by decide) ⟨Nat.zero_le _, Nat.zero_le _⟩ dX12_mayWatch_45 ?_
    refine ⟨?_, rfl⟩
    rw [pit_f (show ¬ mN (qS P (gI m 316) t) f g _ from fun z => by obtain ⟨d, e, hd⟩ := z; exact hnx d hd.1.1.1 hd.1.1.2.1 (by rw [e]))]
  · skip
    have hnc := nm_lt hc4
    have ec := (nI_eq (show n < 2 ^ 31 by omega) (show nm c < 2 ^ 31 by omega)).mp ec
    subst ec
    have nmc : 8 * (nm c / 10) + nm c % 10 = c := by unfold nm; omega
    refine go_aload_n (q := 0) (i := 0) rfl rfl dX12_mayWatch_0 ?_
    refine go_iload_n (q := 1) (i := 1) rfl rfl dX12_mayWatch_1 ?_
    refine go_callV okmX12_isAt lmX12_462 ⟨nle rfl, nle rfl⟩ hx.o ⟨by decide, rfl⟩ (ex_isAt hx hm) npmX12_isAt rfl (nle rfl) ⟨nle rfl, nle rfl⟩ dX12_mayWatch_2 ?_
    rintro _ mz ⟨rfl, hz⟩
    subst mz
    rw [hix]
    refine go_c1 ?_
    refine gz_eq (by omega) (tgt := 44) dX12_mayWatch_5 (by decide) (fun h5 => by exfalso; omega) (fun h5 => ?_)
    refine go_iload_n (q := 1) (i := 1) rfl rfl dX12_mayWatch_8 ?_
    refine go_iload_n (q := 2) (i := 2) rfl rfl dX12_mayWatch_9 ?_
    refine gn_eq (by omega) (by omega) (tgt := 44) dX12_mayWatch_10 (by decide) (fun h10 => ?_) (fun h10 => ?_)
    · skip
      refine go_iconst (v := nI 0) (by decide) dX12_mayWatch_44 ?_
      refine go_zret rfl (by decide) ⟨Nat.zero_le _, Nat.zero_le _⟩ dX12_mayWatch_45 ?_
      refine ⟨?_, rfl⟩
      rw [pit_f (show ¬ mN (qS P (gI m 316) t) f g _ from fun z => by obtain ⟨d, e, hd⟩ := z; have e := nm_inj e; subst e; exact hd.1.2 (nm_inj h10))]
    · skip
      refine go_iload_n (q := 1) (i := 1) rfl rfl dX12_mayWatch_13 ?_
      refine go_iload_n (q := 3) (i := 3) rfl rfl dX12_mayWatch_14 ?_
      refine gn_eq (by omega) (by omega) (tgt := 44) dX12_mayWatch_15 (by decide) (fun h15 => ?_) (fun h15 => ?_)
      · skip
        refine go_iconst (v := nI 0) (by decide) dX12_mayWatch_44 ?_
        refine go_zret rfl (by decide) ⟨Nat.zero_le _, Nat.zero_le _⟩ dX12_mayWatch_45 ?_
        refine ⟨?_, rfl⟩
        rw [pit_f (show ¬ mN (qS P (gI m 316) t) f g _ from fun z => by obtain ⟨d, e, hd⟩ := z; have e := nm_inj e; subst e; exact hd.2 (nm_inj h15))]
      · skip
        refine go_aload_n (q := 0) (i := 0) rfl rfl dX12_mayWatch_18 ?_
        refine go_getR lf12_143 rfl hx.o hx.r59 dX12_mayWatch_19 ?_
        refine go_bipush (v := nI 8) (by decide) dX12_mayWatch_22 ?_
        refine go_iload_n (q := 1) (i := 1) rfl rfl dX12_mayWatch_24 ?_
        refine go_bipush (v := nI 10) (by decide) dX12_mayWatch_25 ?_
        refine gn_div (by omega) (by omega) (by omega) dX12_mayWatch_27 ?_
        refine gn_mul dX12_mayWatch_28 ?_
        refine go_iload_n (q := 1) (i := 1) rfl rfl dX12_mayWatch_29 ?_
        refine go_bipush (v := nI 10) (by decide) dX12_mayWatch_30 ?_
        refine gn_rem (by omega) (by omega) (by omega) dX12_mayWatch_32 ?_
        refine gn_add dX12_mayWatch_33 ?_
        refine go_iald (j := ((8 * (((nm c)) / 10)) + (((nm c)) % 10))) hx.i59 (by omega) (by first | decide | omega) rfl dX12_mayWatch_34 ?_
        rw [nmc]
        refine go_iload (i := 4) rfl dX12_mayWatch_35 ?_
        refine go_icmp_lt (tgt := 44) dX12_mayWatch_37 (by decide) (fun h37 => ?_) (fun h37 => ?_)
        · skip
          refine go_iconst (v := nI 0) (by decide) dX12_mayWatch_44 ?_
          refine go_zret rfl (by decide) ⟨Nat.zero_le _, Nat.zero_le _⟩ dX12_mayWatch_45 ?_
          refine ⟨?_, rfl⟩
          rw [pit_f (show ¬ mN (qS P (gI m 316) t) f g _ from fun z => by obtain ⟨d, e, hd⟩ := z; have e := nm_inj e; subst e; exact absurd h37 (Int32.not_lt.mpr hd.1.1.2.2))]
        · skip
          refine go_iconst (v := nI 1) (by decide) dX12_mayWatch_40 ?_
          refine go_goto (tgt := 45) dX12_mayWatch_41 (by decide) ?_
          refine go_zret rfl (by decide) ⟨Nat.zero_le _, Nat.zero_le _⟩ dX12_mayWatch_45 ?_
          refine ⟨?_, rfl⟩
          rw [pit_t (show mN (qS P (gI m 316) t) f g (nm c) from ⟨c, rfl, ⟨⟨⟨hc4, hlc, Int32.not_lt.mp h37⟩, fun z => h10 (by rw [z])⟩, fun z => h15 (by rw [z])⟩⟩)]
def FdA (x : Nat) : Prop := x = 319 ∨ x = 321
theorem mdF {m m' : Me} {P : Pl} {lv : Nat} (c : Ch FdA m m') (h : MdC m P lv) : MdC m' P lv := h.keep (by rw [c.at (x := 274) (by unfold FdA; omega)]) (fun x a b => c.at (by unfold FdA; omega))
set_option maxRecDepth 100000 in
set_option maxHeartbeats 8000000 in
theorem ex_finds0 {m : Me} {P : Pl} {lv : Nat} (hx : Wf12 m.1 (gR m)) (hm : MdC m P lv) (ok : PlOk P) {f g t : Nat} (hf4 : f < 40) (hg4 : g < 40) (hlf : ld P f) (hlg : ld P g) (hfg : ¬ g = f) (ht : t ≤ 99) : Ev mX12_findsWatch [.ref 274, .int (nI (nm f)), .int (nI (nm g)), .int (nI t), .int (nI 0)] m (fun o m' => Ch FdA m m' ∧ ((o = some (.int (nI 1)) ∧ (Gd (qS P (gI m 316) t) f g w0)) ∨ (o = some (.int (nI 0)) ∧ ¬ Gd (qS P (gI m 316) t) f g w0))) := by
  refine ⟨plmX12_findsWatch, nle rfl, ?_⟩
  have hnf := nm_lt hf4
  have hng := nm_lt hg4
  have cj : Ch FdA m m := Ch.rf
  refine go_iload (i := 4) rfl dX12_findsWatch_0 ?_
  refine gz_le (by omega) (tgt := 9) dX12_findsWatch_2 (by decide) (fun h2 => ?_) (fun h2 => by exfalso; omega)
  refine go_bipush (v := nI 99) (by decide) dX12_findsWatch_9 ?_
  refine go_istore (i := 5) dX12_findsWatch_11 (nle rfl) (nle rfl) ?_
  refine go_L (L' := [some (.ref 274), some (.int (nI ((nm f)))), some (.int (nI ((nm g)))), some (.int (nI t)), some (.int (nI 0)), some (.int (nI 99)), none, none]) rfl ?_
  refine go_iload (i := 5) rfl dX12_findsWatch_13 ?_
  refine go_bipush (v := nI 100) (by decide) dX12_findsWatch_15 ?_
  refine gn_ge (by omega) (by omega) (tgt := 213) dX12_findsWatch_17 (by decide) (fun h17 => by exfalso; omega) (fun h17 => ?_)
  refine go_iload (i := 4) rfl dX12_findsWatch_20 ?_
  refine gz_le (by omega) (tgt := 40) dX12_findsWatch_22 (by decide) (fun h22 => ?_) (fun h22 => by exfalso; omega)
  refine go_iload (i := 4) rfl dX12_findsWatch_40 ?_
  refine go_iconst (v := nI 1) (by decide) dX12_findsWatch_42 ?_
  refine gn_le (by omega) (by omega) (tgt := 53) dX12_findsWatch_43 (by decide) (fun h43 => ?_) (fun h43 => by exfalso; omega)
  refine go_bipush (v := nI 99) (by decide) dX12_findsWatch_53 ?_
  refine go_istore (i := 6) dX12_findsWatch_55 (nle rfl) (nle rfl) ?_
  refine go_L (L' := [some (.ref 274), some (.int (nI ((nm f)))), some (.int (nI ((nm g)))), some (.int (nI t)), some (.int (nI 0)), some (.int (nI 99)), some (.int (nI 99)), none]) rfl ?_
  refine go_iload (i := 6) rfl dX12_findsWatch_57 ?_
  refine go_bipush (v := nI 100) (by decide) dX12_findsWatch_59 ?_
  refine gn_ge (by omega) (by omega) (tgt := 207) dX12_findsWatch_61 (by decide) (fun h61 => by exfalso; omega) (fun h61 => ?_)
  refine go_iload (i := 4) rfl dX12_findsWatch_64 ?_
  refine go_iconst (v := nI 1) (by decide) dX12_findsWatch_66 ?_
  refine gn_le (by omega) (by omega) (tgt := 85) dX12_findsWatch_67 (by decide) (fun h67 => ?_) (fun h67 => by exfalso; omega)
  refine go_iload (i := 4) rfl dX12_findsWatch_85 ?_
  refine go_iconst (v := nI 2) (by decide) dX12_findsWatch_87 ?_
  refine gn_le (by omega) (by omega) (tgt := 98) dX12_findsWatch_88 (by decide) (fun h88 => ?_) (fun h88 => by exfalso; omega)
  refine go_bipush (v := nI 99) (by decide) dX12_findsWatch_98 ?_
  refine go_istore (i := 7) dX12_findsWatch_100 (nle rfl) (nle rfl) ?_
  refine go_L (L' := [some (.ref 274), some (.int (nI ((nm f)))), some (.int (nI ((nm g)))), some (.int (nI t)), some (.int (nI 0)), some (.int (nI 99)), some (.int (nI 99)), some (.int (nI 99))]) rfl ?_
  refine go_iload (i := 7) rfl dX12_findsWatch_102 ?_
  refine go_bipush (v := nI 100) (by decide) dX12_findsWatch_104 ?_
  refine gn_ge (by omega) (by omega) (tgt := 201) dX12_findsWatch_106 (by decide) (fun h106 => by exfalso; omega) (fun h106 => ?_)
  refine go_iload (i := 4) rfl dX12_findsWatch_109 ?_
  refine go_iconst (v := nI 2) (by decide) dX12_findsWatch_111 ?_
  refine gn_le (by omega) (by omega) (tgt := 130) dX12_findsWatch_112 (by decide) (fun h112 => ?_) (fun h112 => by exfalso; omega)
  refine go_L (L' := [some (.ref 274), some (.int (nI ((nm f)))), some (.int (nI ((nm g)))), some (.int (nI t)), some (.int (nI 0)), some (.int (nI 99)), some (.int (nI 99)), some (.int (nI 99))]) rfl ?_
  refine go_aload_n (q := 0) (i := 0) rfl rfl dX12_findsWatch_130 ?_
  refine go_getR lf12_158 rfl hx.o hx.r67 dX12_findsWatch_131 ?_
  refine go_iconst (v := nI 0) (by decide) dX12_findsWatch_134 ?_
  refine go_iload (i := 4) rfl dX12_findsWatch_135 ?_
  refine gz_le (by omega) (tgt := 145) dX12_findsWatch_137 (by decide) (fun h137 => ?_) (fun h137 => by exfalso; omega)
  refine go_iconst (v := -1) (by decide) dX12_findsWatch_145 ?_
  refine go_iast (j := 0) hx.i67 (by omega) (by first | decide | omega) rfl dX12_findsWatch_146 ?_
  refine go_aload_n (q := 0) (i := 0) rfl rfl dX12_findsWatch_147 ?_
  refine go_getR lf12_158 rfl hx.o hx.r67 dX12_findsWatch_148 ?_
  refine go_iconst (v := nI 1) (by decide) dX12_findsWatch_151 ?_
  refine go_iload (i := 4) rfl dX12_findsWatch_152 ?_
  refine go_iconst (v := nI 1) (by decide) dX12_findsWatch_154 ?_
  refine gn_le (by omega) (by omega) (tgt := 163) dX12_findsWatch_155 (by decide) (fun h155 => ?_) (fun h155 => by exfalso; omega)
  refine go_iconst (v := -1) (by decide) dX12_findsWatch_163 ?_
  refine go_iast (j := 1) hx.i67 (by omega) (by first | decide | omega) rfl dX12_findsWatch_164 ?_
  refine go_aload_n (q := 0) (i := 0) rfl rfl dX12_findsWatch_165 ?_
  refine go_getR lf12_158 rfl hx.o hx.r67 dX12_findsWatch_166 ?_
  refine go_iconst (v := nI 2) (by decide) dX12_findsWatch_169 ?_
  refine go_iload (i := 4) rfl dX12_findsWatch_170 ?_
  refine go_iconst (v := nI 2) (by decide) dX12_findsWatch_172 ?_
  refine gn_le (by omega) (by omega) (tgt := 181) dX12_findsWatch_173 (by decide) (fun h173 => ?_) (fun h173 => by exfalso; omega)
  refine go_iconst (v := -1) (by decide) dX12_findsWatch_181 ?_
  refine go_iast (j := 2) hx.i67 (by omega) (by first | decide | omega) rfl dX12_findsWatch_182 ?_
  generalize hmA : sI (sI (sI m 321 _) 321 _) 321 _ = mA
  have cA : Ch FdA m mA := by rw [← hmA]; exact Ch.i (Ch.i (Ch.i Ch.rf (Or.inr rfl)) (Or.inr rfl)) (Or.inr rfl)
  have t0 : gI mA 321 0 = -1 := by rw [← hmA, gI_s, upd_ne (by decide), gI_s, upd_ne (by decide), gI_s, upd_eq]
  have t1 : gI mA 321 1 = -1 := by rw [← hmA, gI_s, upd_ne (by decide), gI_s, upd_eq]
  have t2 : gI mA 321 2 = -1 := by rw [← hmA, gI_s, upd_eq]
  have hx := CX12 cA hx
  have hm := mdF cA hm
  have hwc0 : ∀ c, c < 40 → (wW (gI mA 321) c ↔ w0 c) := fun c zc => by
    have z0 : c < 40 ∧ True := ⟨zc, trivial⟩
    exact ⟨fun z => z.elim (fun z => z.elim ((wW_1 t0).resolve_right (by omega)) ((wW_1 t1).resolve_right (by omega))) ((wW_1 t2).resolve_right (by omega)), fun z => z.elim⟩
  have hwf : ¬ wW (gI mA 321) f := (fun z => ((hwc0 f hf4).mp z).elim)
  have hwg : ¬ wW (gI mA 321) g := (fun z => ((hwc0 g hg4).mp z).elim)
  have hGd : Gd (qS P (gI mA 316) t) f g (wW (gI mA 321)) ↔ Gd (qS P (gI m 316) t) f g w0 := by
    rw [show gI mA 316 = gI m 316 from (cj.tr cA).at (by unfold FdA; omega)]
    exact Gd_c (fun c z => hwc0 c z.1)
  refine go_aload_n (q := 0) (i := 0) rfl rfl dX12_findsWatch_183 ?_
  refine go_iload_n (q := 1) (i := 1) rfl rfl dX12_findsWatch_184 ?_
  refine go_iload_n (q := 2) (i := 2) rfl rfl dX12_findsWatch_185 ?_
  refine go_iload_n (q := 3) (i := 3) rfl rfl dX12_findsWatch_186 ?_
  refine go_callV okmX12_isOpen lmX12_469 ⟨nle rfl, nle rfl⟩ hx.o ⟨by decide, rfl⟩ (ex_isOpen hx hm ok hf4 hg4 hlf hlg hfg ht hwf hwg) npmX12_isOpen rfl (nle rfl) ⟨nle rfl, nle rfl⟩ dX12_findsWatch_187 ?_
  rintro _ m3 ⟨rfl, cO⟩
  rw [show pit (Gd (qS P (gI mA 316) t) f g (wW (gI mA 321))) (nI 0) (nI 1) = pit (Gd (qS P (gI m 316) t) f g w0) (nI 0) (nI 1) by rw [propext hGd]]
  have cF : Ch FdA m m3 := (cj.tr cA).tr (cO.mn (fun x hx => Or.inl hx))
  refine go_c1 ?_
  refine go_if_ne (tgt := 195) dX12_findsWatch_190 (by decide) (fun h190 => ?_) (fun h190 => ?_)
  · skip
    refine gn_inc (i := 7) (a := 99) (q := 1) rfl dX12_findsWatch_195 (nle rfl) rfl ?_
    refine go_goto (tgt := 102) dX12_findsWatch_198 (by decide) ?_
    refine go_L (L' := [some (.ref 274), some (.int (nI ((nm f)))), some (.int (nI ((nm g)))), some (.int (nI t)), some (.int (nI 0)), some (.int (nI 99)), some (.int (nI 99)), some (.int (nI (99 + 1)))]) rfl ?_
    refine go_iload (i := 7) rfl dX12_findsWatch_102 ?_
    refine go_bipush (v := nI 100) (by decide) dX12_findsWatch_104 ?_
    refine gn_ge (by omega) (by omega) (tgt := 201) dX12_findsWatch_106 (by decide) (fun h106 => ?_) (fun h106 => by exfalso; omega)
    refine gn_inc (i := 6) (a := 99) (q := 1) rfl dX12_findsWatch_201 (nle rfl) rfl ?_
    refine go_goto (tgt := 57) dX12_findsWatch_204 (by decide) ?_
    refine go_L (L' := [some (.ref 274), some (.int (nI ((nm f)))), some (.int (nI ((nm g)))), some (.int (nI t)), some (.int (nI 0)), some (.int (nI 99)), some (.int (nI (99 + 1))), some (.int (nI (99 + 1)))]) rfl ?_
    refine go_iload (i := 6) rfl dX12_findsWatch_57 ?_
    refine go_bipush (v := nI 100) (by decide) dX12_findsWatch_59 ?_
    refine gn_ge (by omega) (by omega) (tgt := 207) dX12_findsWatch_61 (by decide) (fun h61 => ?_) (fun h61 => by exfalso; omega)
    refine gn_inc (i := 5) (a := 99) (q := 1) rfl dX12_findsWatch_207 (nle rfl) rfl ?_
    refine go_goto (tgt := 13) dX12_findsWatch_210 (by decide) ?_
    refine go_L (L' := [some (.ref 274), some (.int (nI ((nm f)))), some (.int (nI ((nm g)))), some (.int (nI t)), some (.int (nI 0)), some (.int (nI (99 + 1))), some (.int (nI (99 + 1))), some (.int (nI (99 + 1)))]) rfl ?_
    refine go_iload (i := 5) rfl dX12_findsWatch_13 ?_
    refine go_bipush (v := nI 100) (by decide) dX12_findsWatch_15 ?_
    refine gn_ge (by omega) (by omega) (tgt := 213) dX12_findsWatch_17 (by decide) (fun h17 => ?_) (fun h17 => by exfalso; omega)
    refine go_iconst (v := nI 0) (by decide) dX12_findsWatch_213 ?_
    refine go_zret rfl (by decide) ⟨Nat.zero_le _, Nat.zero_le _⟩ dX12_findsWatch_214 ?_
    exact ⟨cF, Or.inr ⟨rfl, fun z => h190 (pz'.mpr z)⟩⟩
  · skip
    refine go_iconst (v := nI 1) (by decide) dX12_findsWatch_193 ?_
    refine go_zret rfl (by decide) ⟨Nat.zero_le _, Nat.zero_le _⟩ dX12_findsWatch_194 ?_
    exact ⟨cF, Or.inl ⟨rfl, pz'.mp h190⟩⟩
set_option maxRecDepth 100000 in
set_option maxHeartbeats 8000000 in
theorem ex_finds1 {m : Me} {P : Pl} {lv : Nat} (hx : Wf12 m.1 (gR m)) (hm : MdC m P lv) (ok : PlOk P) {f g t : Nat} (hf4 : f < 40) (hg4 : g < 40) (hlf : ld P f) (hlg : ld P g) (hfg : ¬ g = f) (ht : t ≤ 99) : Ev mX12_findsWatch [.ref 274, .int (nI (nm f)), .int (nI (nm g)), .int (nI t), .int (nI 1)] m (fun o m' => Ch FdA m m' ∧ ((o = some (.int (nI 1)) ∧ (∃ a, F1 (qS P (gI m 316) t) f g a ∧ gI m' 321 0 = nI (nm a))) ∨ (o = some (.int (nI 0)) ∧ N1 (qS P (gI m 316) t) f g))) := by
  refine ⟨plmX12_findsWatch, nle rfl, ?_⟩
  have hnf := nm_lt hf4
  have hng := nm_lt hg4
  have hx0 := hx
  have hm0 := hm
  have key : ∀ i, i ≤ 100 → ∀ mi : Me, Ch FdA m mi → (∀ a, nm a < i → may (qS P (gI m 316) t) f g a → ¬ Gd (qS P (gI m 316) t) f g (w1 a)) → ∀ x6 x7 : Option Value, Go mX12_findsWatch (fun o m' => Ch FdA m m' ∧ ((o = some (.int (nI 1)) ∧ (∃ a, F1 (qS P (gI m 316) t) f g a ∧ gI m' 321 0 = nI (nm a))) ∨ (o = some (.int (nI 0)) ∧ N1 (qS P (gI m 316) t) f g))) 13 [some (.ref 274), some (.int (nI (nm f))), some (.int (nI (nm g))), some (.int (nI t)), some (.int (nI 1)), some (.int (nI i)), x6, x7] [] mi 0 0 := by
    refine loop_up 100 ?_ ?_
    · intro mi cj hn x6 x7
      have hx := CX12 cj hx0
      have hm := mdF cj hm0
      refine go_iload (i := 5) rfl dX12_findsWatch_13 ?_
      refine go_bipush (v := nI 100) (by decide) dX12_findsWatch_15 ?_
      refine gn_ge (by omega) (by omega) (tgt := 213) dX12_findsWatch_17 (by decide) (fun h17 => ?_) (fun h17 => by exfalso; omega)
      refine go_iconst (v := nI 0) (by decide) dX12_findsWatch_213 ?_
      refine go_zret rfl (by decide) ⟨Nat.zero_le _, Nat.zero_le _⟩ dX12_findsWatch_214 ?_
      exact ⟨cj, Or.inr ⟨rfl, fun a h => hn a (by have := nm_lt h.1.1.1; omega) h⟩⟩
    · intro i hi ih mi cj hn x6 x7
      have hx := CX12 cj hx0
      have hm := mdF cj hm0
      refine go_iload (i := 5) rfl dX12_findsWatch_13 ?_
      refine go_bipush (v := nI 100) (by decide) dX12_findsWatch_15 ?_
      refine gn_ge (by omega) (by omega) (tgt := 213) dX12_findsWatch_17 (by decide) (fun h17 => by exfalso; omega) (fun h17 => ?_)
      refine go_iload (i := 4) rfl dX12_findsWatch_20 ?_
      refine gz_le (by omega) (tgt := 40) dX12_findsWatch_22 (by decide) (fun h22 => by exfalso; omega) (fun h22 => ?_)
      refine go_aload_n (q := 0) (i := 0) rfl rfl dX12_findsWatch_25 ?_
      refine go_iload (i := 5) rfl dX12_findsWatch_26 ?_
      refine go_iload_n (q := 1) (i := 1) rfl rfl dX12_findsWatch_28 ?_
      refine go_iload_n (q := 2) (i := 2) rfl rfl dX12_findsWatch_29 ?_
      refine go_iload_n (q := 3) (i := 3) rfl rfl dX12_findsWatch_30 ?_
      refine go_callV okmX12_mayWatch lmX12_465 ⟨nle rfl, nle rfl⟩ hx.o ⟨by decide, rfl⟩ (ex_mayWatch hx hm ok hf4 hg4 hlf hlg hfg ht (n := i) (by omega)) npmX12_mayWatch rfl (nle rfl) ⟨nle rfl, nle rfl⟩ dX12_findsWatch_31 ?_
      rintro _ mz ⟨rfl, hz⟩
      subst mz
      rw [show gI mi 316 = gI m 316 from cj.at (by unfold FdA; omega)]
      refine go_c1 ?_
      refine go_if_ne (tgt := 40) dX12_findsWatch_34 (by decide) (fun h34 => ?_) (fun h34 => ?_)
      · skip
        refine go_iload (i := 4) rfl dX12_findsWatch_40 ?_
        refine go_iconst (v := nI 1) (by decide) dX12_findsWatch_42 ?_
        refine gn_le (by omega) (by omega) (tgt := 53) dX12_findsWatch_43 (by decide) (fun h43 => ?_) (fun h43 => by exfalso; omega)
        refine go_bipush (v := nI 99) (by decide) dX12_findsWatch_53 ?_
        refine go_istore (i := 6) dX12_findsWatch_55 (nle rfl) (nle rfl) ?_
        refine go_L (L' := [some (.ref 274), some (.int (nI ((nm f)))), some (.int (nI ((nm g)))), some (.int (nI t)), some (.int (nI 1)), some (.int (nI i)), some (.int (nI 99)), x7]) rfl ?_
        refine go_iload (i := 6) rfl dX12_findsWatch_57 ?_
        refine go_bipush (v := nI 100) (by decide) dX12_findsWatch_59 ?_
        refine gn_ge (by omega) (by omega) (tgt := 207) dX12_findsWatch_61 (by decide) (fun h61 => by exfalso; omega) (fun h61 => ?_)
        refine go_iload (i := 4) rfl dX12_findsWatch_64 ?_
        refine go_iconst (v := nI 1) (by decide) dX12_findsWatch_66 ?_
        refine gn_le (by omega) (by omega) (tgt := 85) dX12_findsWatch_67 (by decide) (fun h67 => ?_) (fun h67 => by exfalso; omega)
        refine go_iload (i := 4) rfl dX12_findsWatch_85 ?_
        refine go_iconst (v := nI 2) (by decide) dX12_findsWatch_87 ?_
        refine gn_le (by omega) (by omega) (tgt := 98) dX12_findsWatch_88 (by decide) (fun h88 => ?_) (fun h88 => by exfalso; omega)
        refine go_bipush (v := nI 99) (by decide) dX12_findsWatch_98 ?_
        refine go_istore (i := 7) dX12_findsWatch_100 (nle rfl) (nle rfl) ?_
        refine go_L (L' := [some (.ref 274), some (.int (nI ((nm f)))), some (.int (nI ((nm g)))), some (.int (nI t)), some (.int (nI 1)), some (.int (nI i)), some (.int (nI 99)), some (.int (nI 99))]) rfl ?_
        refine go_iload (i := 7) rfl dX12_findsWatch_102 ?_
        refine go_bipush (v := nI 100) (by decide) dX12_findsWatch_104 ?_
        refine gn_ge (by omega) (by omega) (tgt := 201) dX12_findsWatch_106 (by decide) (fun h106 => by exfalso; omega) (fun h106 => ?_)
        refine go_iload (i := 4) rfl dX12_findsWatch_109 ?_
        refine go_iconst (v := nI 2) (by decide) dX12_findsWatch_111 ?_
        refine gn_le (by omega) (by omega) (tgt := 130) dX12_findsWatch_112 (by decide) (fun h112 => ?_) (fun h112 => by exfalso; omega)
        refine go_L (L' := [some (.ref 274), some (.int (nI ((nm f)))), some (.int (nI ((nm g)))), some (.int (nI t)), some (.int (nI 1)), some (.int (nI i)), some (.int (nI 99)), some (.int (nI 99))]) rfl ?_
        refine go_aload_n (q := 0) (i := 0) rfl rfl dX12_findsWatch_130 ?_
        refine go_getR lf12_158 rfl hx.o hx.r67 dX12_findsWatch_131 ?_
        refine go_iconst (v := nI 0) (by decide) dX12_findsWatch_134 ?_
        refine go_iload (i := 4) rfl dX12_findsWatch_135 ?_
        refine gz_le (by omega) (tgt := 145) dX12_findsWatch_137 (by decide) (fun h137 => by exfalso; omega) (fun h137 => ?_)
        refine go_iload (i := 5) rfl dX12_findsWatch_140 ?_
        refine go_goto (tgt := 146) dX12_findsWatch_142 (by decide) ?_
        refine go_iast (j := 0) hx.i67 (by omega) (by first | decide | omega) rfl dX12_findsWatch_146 ?_
        refine go_aload_n (q := 0) (i := 0) rfl rfl dX12_findsWatch_147 ?_
        refine go_getR lf12_158 rfl hx.o hx.r67 dX12_findsWatch_148 ?_
        refine go_iconst (v := nI 1) (by decide) dX12_findsWatch_151 ?_
        refine go_iload (i := 4) rfl dX12_findsWatch_152 ?_
        refine go_iconst (v := nI 1) (by decide) dX12_findsWatch_154 ?_
        refine gn_le (by omega) (by omega) (tgt := 163) dX12_findsWatch_155 (by decide) (fun h155 => ?_) (fun h155 => by exfalso; omega)
        refine go_iconst (v := -1) (by decide) dX12_findsWatch_163 ?_
        refine go_iast (j := 1) hx.i67 (by omega) (by first | decide | omega) rfl dX12_findsWatch_164 ?_
        refine go_aload_n (q := 0) (i := 0) rfl rfl dX12_findsWatch_165 ?_
        refine go_getR lf12_158 rfl hx.o hx.r67 dX12_findsWatch_166 ?_
        refine go_iconst (v := nI 2) (by decide) dX12_findsWatch_169 ?_
        refine go_iload (i := 4) rfl dX12_findsWatch_170 ?_
        refine go_iconst (v := nI 2) (by decide) dX12_findsWatch_172 ?_
        refine gn_le (by omega) (by omega) (tgt := 181) dX12_findsWatch_173 (by decide) (fun h173 => ?_) (fun h173 => by exfalso; omega)
        refine go_iconst (v := -1) (by decide) dX12_findsWatch_181 ?_
        refine go_iast (j := 2) hx.i67 (by omega) (by first | decide | omega) rfl dX12_findsWatch_182 ?_
        obtain ⟨ca, eca, hca⟩ := pnz h34
        have lca : ca < 40 := hca.1.1.1
        generalize hmA : sI (sI (sI mi 321 _) 321 _) 321 _ = mA
        have cA : Ch FdA mi mA := by rw [← hmA]; exact Ch.i (Ch.i (Ch.i Ch.rf (Or.inr rfl)) (Or.inr rfl)) (Or.inr rfl)
        have t0 : gI mA 321 0 = nI (nm ca) := by rw [← hmA, gI_s, upd_ne (by decide), gI_s, upd_ne (by decide), gI_s, upd_eq]; rw [eca]
        have t1 : gI mA 321 1 = -1 := by rw [← hmA, gI_s, upd_ne (by decide), gI_s, upd_eq]
        have t2 : gI mA 321 2 = -1 := by rw [← hmA, gI_s, upd_eq]
        have hx := CX12 cA hx
        have hm := mdF cA hm
        have hwc0 : ∀ c, c < 40 → (wW (gI mA 321) c ↔ (w1 ca) c) := fun c zc => by
          have z0 : c < 40 ∧ True := ⟨zc, trivial⟩
          exact ⟨fun z => z.elim (fun z => z.elim (wW_2 lca z0.1 t0).mp (fun z => absurd z ((wW_1 t1).resolve_right (by omega)))) (fun z => absurd z ((wW_1 t2).resolve_right (by omega))), fun z => Or.inl (Or.inl ((wW_2 lca z0.1 t0).mpr z))⟩
        have hwf : ¬ wW (gI mA 321) f := (fun z => hca.1.2 ((hwc0 f hf4).mp z).symm)
        have hwg : ¬ wW (gI mA 321) g := (fun z => hca.2 ((hwc0 g hg4).mp z).symm)
        have hGd : Gd (qS P (gI mA 316) t) f g (wW (gI mA 321)) ↔ Gd (qS P (gI m 316) t) f g (w1 ca) := by
          rw [show gI mA 316 = gI m 316 from (cj.tr cA).at (by unfold FdA; omega)]
          exact Gd_c (fun c z => hwc0 c z.1)
        refine go_aload_n (q := 0) (i := 0) rfl rfl dX12_findsWatch_183 ?_
        refine go_iload_n (q := 1) (i := 1) rfl rfl dX12_findsWatch_184 ?_
        refine go_iload_n (q := 2) (i := 2) rfl rfl dX12_findsWatch_185 ?_
        refine go_iload_n (q := 3) (i := 3) rfl rfl dX12_findsWatch_186 ?_
        refine go_callV okmX12_isOpen lmX12_469 ⟨nle rfl, nle rfl⟩ hx.o ⟨by decide, rfl⟩ (ex_isOpen hx hm ok hf4 hg4 hlf hlg hfg ht hwf hwg) npmX12_isOpen rfl (nle rfl) ⟨nle rfl, nle rfl⟩ dX12_findsWatch_187 ?_
        rintro _ m3 ⟨rfl, cO⟩
        rw [show pit (Gd (qS P (gI mA 316) t) f g (wW (gI mA 321))) (nI 0) (nI 1) = pit (Gd (qS P (gI m 316) t) f g (w1 ca)) (nI 0) (nI 1) by rw [propext hGd]]
        have cF : Ch FdA m m3 := (cj.tr cA).tr (cO.mn (fun x hx => Or.inl hx))
        refine go_c1 ?_
        refine go_if_ne (tgt := 195) dX12_findsWatch_190 (by decide) (fun h190 => ?_) (fun h190 => ?_)
        · skip
          refine gn_inc (i := 7) (a := 99) (q := 1) rfl dX12_findsWatch_195 (nle rfl) rfl ?_
          refine go_goto (tgt := 102) dX12_findsWatch_198 (by decide) ?_
          refine go_L (L' := [some (.ref 274), some (.int (nI ((nm f)))), some (.int (nI ((nm g)))), some (.int (nI t)), some (.int (nI 1)), some (.int (nI i)), some (.int (nI 99)), some (.int (nI (99 + 1)))]) rfl ?_
          refine go_iload (i := 7) rfl dX12_findsWatch_102 ?_
          refine go_bipush (v := nI 100) (by decide) dX12_findsWatch_104 ?_
          refine gn_ge (by omega) (by omega) (tgt := 201) dX12_findsWatch_106 (by decide) (fun h106 => ?_) (fun h106 => by exfalso; omega)
          refine gn_inc (i := 6) (a := 99) (q := 1) rfl dX12_findsWatch_201 (nle rfl) rfl ?_
          refine go_goto (tgt := 57) dX12_findsWatch_204 (by decide) ?_
          refine go_L (L' := [some (.ref 274), some (.int (nI ((nm f)))), some (.int (nI ((nm g)))), some (.int (nI t)), some (.int (nI 1)), some (.int (nI i)), some (.int (nI (99 + 1))), some (.int (nI (99 + 1)))]) rfl ?_
          refine go_iload (i := 6) rfl dX12_findsWatch_57 ?_
          refine go_bipush (v := nI 100) (by decide) dX12_findsWatch_59 ?_
          refine gn_ge (by omega) (by omega) (tgt := 207) dX12_findsWatch_61 (by decide) (fun h61 => ?_) (fun h61 => by exfalso; omega)
          refine gn_inc (i := 5) (a := i) (q := 1) rfl dX12_findsWatch_207 (nle rfl) rfl ?_
          refine go_goto (tgt := 13) dX12_findsWatch_210 (by decide) ?_
          refine ih _ cF (fun a z h => ?_) _ _
          by_cases e : nm a = i
          · rw [show a = ca from nm_inj (e.trans eca)]
            exact fun y => h190 (pz'.mpr y)
          · exact hn a (by omega) h
        · skip
          refine go_iconst (v := nI 1) (by decide) dX12_findsWatch_193 ?_
          refine go_zret rfl (by decide) ⟨Nat.zero_le _, Nat.zero_le _⟩ dX12_findsWatch_194 ?_
          refine ⟨cF, Or.inl ⟨rfl, ca, ⟨⟨hca, pz'.mp h190⟩, fun a z => hn a (by rw [eca]; exact nm_mono.mpr z)⟩, ?_⟩⟩
          rw [show gI m3 321 = gI mA 321 from cO.at (by omega)]
          exact t0
      · skip
        refine go_goto (tgt := 207) dX12_findsWatch_37 (by decide) ?_
        refine gn_inc (i := 5) (a := i) (q := 1) rfl dX12_findsWatch_207 (nle rfl) rfl ?_
        refine go_goto (tgt := 13) dX12_findsWatch_210 (by decide) ?_
        refine ih _ cj (fun a z h => ?_) _ _
        by_cases e : nm a = i
        · exact absurd ⟨a, e.symm, h⟩ (pz.mp h34)
        · exact hn a (by omega) h
  refine go_iload (i := 4) rfl dX12_findsWatch_0 ?_
  refine gz_le (by omega) (tgt := 9) dX12_findsWatch_2 (by decide) (fun h2 => by exfalso; omega) (fun h2 => ?_)
  refine go_iconst (v := nI 0) (by decide) dX12_findsWatch_5 ?_
  refine go_goto (tgt := 11) dX12_findsWatch_6 (by decide) ?_
  refine go_istore (i := 5) dX12_findsWatch_11 (nle rfl) (nle rfl) ?_
  exact key 0 (Nat.zero_le _) m Ch.rf (fun a h => absurd h (Nat.not_lt_zero _)) _ _
set_option maxRecDepth 100000 in
set_option maxHeartbeats 8000000 in
theorem ex_finds2 {m : Me} {P : Pl} {lv : Nat} (hx : Wf12 m.1 (gR m)) (hm : MdC m P lv) (ok : PlOk P) {f g t : Nat} (hf4 : f < 40) (hg4 : g < 40) (hlf : ld P f) (hlg : ld P g) (hfg : ¬ g = f) (ht : t ≤ 99) : Ev mX12_findsWatch [.ref 274, .int (nI (nm f)), .int (nI (nm g)), .int (nI t), .int (nI 2)] m (fun o m' => Ch FdA m m' ∧ ((o = some (.int (nI 1)) ∧ (∃ a b, F2 (qS P (gI m 316) t) f g a b ∧ gI m' 321 0 = nI (nm a) ∧ gI m' 321 1 = nI (nm b))) ∨ (o = some (.int (nI 0)) ∧ N2 (qS P (gI m 316) t) f g))) := by
  refine ⟨plmX12_findsWatch, nle rfl, ?_⟩
  have hnf := nm_lt hf4
  have hng := nm_lt hg4
  have hx0 := hx
  have hm0 := hm
  have key : ∀ i, i ≤ 100 → ∀ mi : Me, Ch FdA m mi → (∀ a b, nm a < i → ¬ T2 (qS P (gI m 316) t) f g a b) → ∀ x6 x7 : Option Value, Go mX12_findsWatch (fun o m' => Ch FdA m m' ∧ ((o = some (.int (nI 1)) ∧ (∃ a b, F2 (qS P (gI m 316) t) f g a b ∧ gI m' 321 0 = nI (nm a) ∧ gI m' 321 1 = nI (nm b))) ∨ (o = some (.int (nI 0)) ∧ N2 (qS P (gI m 316) t) f g))) 13 [some (.ref 274), some (.int (nI (nm f))), some (.int (nI (nm g))), some (.int (nI t)), some (.int (nI 2)), some (.int (nI i)), x6, x7] [] mi 0 0 := by
    refine loop_up 100 ?_ ?_
    · intro mi cj hn x6 x7
      have hx := CX12 cj hx0
      have hm := mdF cj hm0
      refine go_iload (i := 5) rfl dX12_findsWatch_13 ?_
      refine go_bipush (v := nI 100) (by decide) dX12_findsWatch_15 ?_
      refine gn_ge (by omega) (by omega) (tgt := 213) dX12_findsWatch_17 (by decide) (fun h17 => ?_) (fun h17 => by exfalso; omega)
      refine go_iconst (v := nI 0) (by decide) dX12_findsWatch_213 ?_
      refine go_zret rfl (by decide) ⟨Nat.zero_le _, Nat.zero_le _⟩ dX12_findsWatch_214 ?_
      exact ⟨cj, Or.inr ⟨rfl, fun a b h => hn a b (by have := nm_lt h.2.1.1.1.1; omega) h⟩⟩
    · intro i hi ih mi cj hn x6 x7
      have hx := CX12 cj hx0
      have hm := mdF cj hm0
      refine go_iload (i := 5) rfl dX12_findsWatch_13 ?_
      refine go_bipush (v := nI 100) (by decide) dX12_findsWatch_15 ?_
      refine gn_ge (by omega) (by omega) (tgt := 213) dX12_findsWatch_17 (by decide) (fun h17 => by exfalso; omega) (fun h17 => ?_)
      refine go_iload (i := 4) rfl dX12_findsWatch_20 ?_
      refine gz_le (by omega) (tgt := 40) dX12_findsWatch_22 (by decide) (fun h22 => by exfalso; omega) (fun h22 => ?_)
      refine go_aload_n (q := 0) (i := 0) rfl rfl dX12_findsWatch_25 ?_
      refine go_iload (i := 5) rfl dX12_findsWatch_26 ?_
      refine go_iload_n (q := 1) (i := 1) rfl rfl dX12_findsWatch_28 ?_
      refine go_iload_n (q := 2) (i := 2) rfl rfl dX12_findsWatch_29 ?_
      refine go_iload_n (q := 3) (i := 3) rfl rfl dX12_findsWatch_30 ?_
      refine go_callV okmX12_mayWatch lmX12_465 ⟨nle rfl, nle rfl⟩ hx.o ⟨by decide, rfl⟩ (ex_mayWatch hx hm ok hf4 hg4 hlf hlg hfg ht (n := i) (by omega)) npmX12_mayWatch rfl (nle rfl) ⟨nle rfl, nle rfl⟩ dX12_findsWatch_31 ?_
      rintro _ mz ⟨rfl, hz⟩
      subst mz
      rw [show gI mi 316 = gI m 316 from cj.at (by unfold FdA; omega)]
      refine go_c1 ?_
      refine go_if_ne (tgt := 40) dX12_findsWatch_34 (by decide) (fun h34 => ?_) (fun h34 => ?_)
      · skip
        refine go_iload (i := 4) rfl dX12_findsWatch_40 ?_
        refine go_iconst (v := nI 1) (by decide) dX12_findsWatch_42 ?_
        refine gn_le (by omega) (by omega) (tgt := 53) dX12_findsWatch_43 (by decide) (fun h43 => by exfalso; omega) (fun h43 => ?_)
        refine go_iload (i := 5) rfl dX12_findsWatch_46 ?_
        refine go_iconst (v := nI 1) (by decide) dX12_findsWatch_48 ?_
        refine gn_add dX12_findsWatch_49 ?_
        refine go_goto (tgt := 55) dX12_findsWatch_50 (by decide) ?_
        refine go_istore (i := 6) dX12_findsWatch_55 (nle rfl) (nle rfl) ?_
        have keyb : ∀ j, j ≤ 100 → ∀ mi : Me, i < j → Ch FdA m mi → (∀ a b, i = nm a → nm b < j → ¬ T2 (qS P (gI m 316) t) f g a b) → ∀ x7 : Option Value, Go mX12_findsWatch (fun o m' => Ch FdA m m' ∧ ((o = some (.int (nI 1)) ∧ (∃ a b, F2 (qS P (gI m 316) t) f g a b ∧ gI m' 321 0 = nI (nm a) ∧ gI m' 321 1 = nI (nm b))) ∨ (o = some (.int (nI 0)) ∧ N2 (qS P (gI m 316) t) f g))) 57 [some (.ref 274), some (.int (nI (nm f))), some (.int (nI (nm g))), some (.int (nI t)), some (.int (nI 2)), some (.int (nI i)), some (.int (nI j)), x7] [] mi 0 0 := by
          refine loop_up 100 ?_ ?_
          · intro mi hij cj hnb x7
            have hx := CX12 cj hx0
            have hm := mdF cj hm0
            refine go_L (L' := [some (.ref 274), some (.int (nI ((nm f)))), some (.int (nI ((nm g)))), some (.int (nI t)), some (.int (nI 2)), some (.int (nI i)), some (.int (nI 100)), x7]) rfl ?_
            refine go_iload (i := 6) rfl dX12_findsWatch_57 ?_
            refine go_bipush (v := nI 100) (by decide) dX12_findsWatch_59 ?_
            refine gn_ge (by omega) (by omega) (tgt := 207) dX12_findsWatch_61 (by decide) (fun h61 => ?_) (fun h61 => by exfalso; omega)
            refine gn_inc (i := 5) (a := i) (q := 1) rfl dX12_findsWatch_207 (nle rfl) rfl ?_
            refine go_goto (tgt := 13) dX12_findsWatch_210 (by decide) ?_
            refine ih _ cj (fun a b z y => ?_) _ _
            by_cases e : nm a = i
            · exact hnb a b e.symm (by have := nm_lt y.2.2.1.1.1.1; omega) y
            · exact hn a b (by omega) y
          · intro j hj ihj mi hij cj hnb x7
            have hx := CX12 cj hx0
            have hm := mdF cj hm0
            refine go_L (L' := [some (.ref 274), some (.int (nI ((nm f)))), some (.int (nI ((nm g)))), some (.int (nI t)), some (.int (nI 2)), some (.int (nI i)), some (.int (nI j)), x7]) rfl ?_
            refine go_iload (i := 6) rfl dX12_findsWatch_57 ?_
            refine go_bipush (v := nI 100) (by decide) dX12_findsWatch_59 ?_
            refine gn_ge (by omega) (by omega) (tgt := 207) dX12_findsWatch_61 (by decide) (fun h61 => by exfalso; omega) (fun h61 => ?_)
            refine go_iload (i := 4) rfl dX12_findsWatch_64 ?_
            refine go_iconst (v := nI 1) (by decide) dX12_findsWatch_66 ?_
            refine gn_le (by omega) (by omega) (tgt := 85) dX12_findsWatch_67 (by decide) (fun h67 => by exfalso; omega) (fun h67 => ?_)
            refine go_aload_n (q := 0) (i := 0) rfl rfl dX12_findsWatch_70 ?_
            refine go_iload (i := 6) rfl dX12_findsWatch_71 ?_
            refine go_iload_n (q := 1) (i := 1) rfl rfl dX12_findsWatch_73 ?_
            refine go_iload_n (q := 2) (i := 2) rfl rfl dX12_findsWatch_74 ?_
            refine go_iload_n (q := 3) (i := 3) rfl rfl dX12_findsWatch_75 ?_
            refine go_callV okmX12_mayWatch lmX12_465 ⟨nle rfl, nle rfl⟩ hx.o ⟨by decide, rfl⟩ (ex_mayWatch hx hm ok hf4 hg4 hlf hlg hfg ht (n := j) (by omega)) npmX12_mayWatch rfl (nle rfl) ⟨nle rfl, nle rfl⟩ dX12_findsWatch_76 ?_
            rintro _ mz ⟨rfl, hz⟩
            subst mz
            rw [show gI mi 316 = gI m 316 from cj.at (by unfold FdA; omega)]
            refine go_c1 ?_
            refine go_if_ne (tgt := 85) dX12_findsWatch_79 (by decide) (fun h79 => ?_) (fun h79 => ?_)
            · skip
              refine go_iload (i := 4) rfl dX12_findsWatch_85 ?_
              refine go_iconst (v := nI 2) (by decide) dX12_findsWatch_87 ?_
              refine gn_le (by omega) (by omega) (tgt := 98) dX12_findsWatch_88 (by decide) (fun h88 => ?_) (fun h88 => by exfalso; omega)
              refine go_bipush (v := nI 99) (by decide) dX12_findsWatch_98 ?_
              refine go_istore (i := 7) dX12_findsWatch_100 (nle rfl) (nle rfl) ?_
              refine go_L (L' := [some (.ref 274), some (.int (nI ((nm f)))), some (.int (nI ((nm g)))), some (.int (nI t)), some (.int (nI 2)), some (.int (nI i)), some (.int (nI j)), some (.int (nI 99))]) rfl ?_
              refine go_iload (i := 7) rfl dX12_findsWatch_102 ?_
              refine go_bipush (v := nI 100) (by decide) dX12_findsWatch_104 ?_
              refine gn_ge (by omega) (by omega) (tgt := 201) dX12_findsWatch_106 (by decide) (fun h106 => by exfalso; omega) (fun h106 => ?_)
              refine go_iload (i := 4) rfl dX12_findsWatch_109 ?_
              refine go_iconst (v := nI 2) (by decide) dX12_findsWatch_111 ?_
              refine gn_le (by omega) (by omega) (tgt := 130) dX12_findsWatch_112 (by decide) (fun h112 => ?_) (fun h112 => by exfalso; omega)
              refine go_L (L' := [some (.ref 274), some (.int (nI ((nm f)))), some (.int (nI ((nm g)))), some (.int (nI t)), some (.int (nI 2)), some (.int (nI i)), some (.int (nI j)), some (.int (nI 99))]) rfl ?_
              refine go_aload_n (q := 0) (i := 0) rfl rfl dX12_findsWatch_130 ?_
              refine go_getR lf12_158 rfl hx.o hx.r67 dX12_findsWatch_131 ?_
              refine go_iconst (v := nI 0) (by decide) dX12_findsWatch_134 ?_
              refine go_iload (i := 4) rfl dX12_findsWatch_135 ?_
              refine gz_le (by omega) (tgt := 145) dX12_findsWatch_137 (by decide) (fun h137 => by exfalso; omega) (fun h137 => ?_)
              refine go_iload (i := 5) rfl dX12_findsWatch_140 ?_
              refine go_goto (tgt := 146) dX12_findsWatch_142 (by decide) ?_
              refine go_iast (j := 0) hx.i67 (by omega) (by first | decide | omega) rfl dX12_findsWatch_146 ?_
              refine go_aload_n (q := 0) (i := 0) rfl rfl dX12_findsWatch_147 ?_
              refine go_getR lf12_158 rfl hx.o hx.r67 dX12_findsWatch_148 ?_
              refine go_iconst (v := nI 1) (by decide) dX12_findsWatch_151 ?_
              refine go_iload (i := 4) rfl dX12_findsWatch_152 ?_
              refine go_iconst (v := nI 1) (by decide) dX12_findsWatch_154 ?_
              refine gn_le (by omega) (by omega) (tgt := 163) dX12_findsWatch_155 (by decide) (fun h155 => by exfalso; omega) (fun h155 => ?_)
              refine go_iload (i := 6) rfl dX12_findsWatch_158 ?_
              refine go_goto (tgt := 164) dX12_findsWatch_160 (by decide) ?_
              refine go_iast (j := 1) hx.i67 (by omega) (by first | decide | omega) rfl dX12_findsWatch_164 ?_
              refine go_aload_n (q := 0) (i := 0) rfl rfl dX12_findsWatch_165 ?_
              refine go_getR lf12_158 rfl hx.o hx.r67 dX12_findsWatch_166 ?_
              refine go_iconst (v := nI 2) (by decide) dX12_findsWatch_169 ?_
              refine go_iload (i := 4) rfl dX12_findsWatch_170 ?_
              refine go_iconst (v := nI 2) (by decide) dX12_findsWatch_172 ?_
              refine gn_le (by omega) (by omega) (tgt := 181) dX12_findsWatch_173 (by decide) (fun h173 => ?_) (fun h173 => by exfalso; omega)
              refine go_iconst (v := -1) (by decide) dX12_findsWatch_181 ?_
              refine go_iast (j := 2) hx.i67 (by omega) (by first | decide | omega) rfl dX12_findsWatch_182 ?_
              obtain ⟨ca, eca, hca⟩ := pnz h34
              obtain ⟨cb, ecb, hcb⟩ := pnz h79
              have lca : ca < 40 := hca.1.1.1
              have lcb : cb < 40 := hcb.1.1.1
              generalize hmA : sI (sI (sI mi 321 _) 321 _) 321 _ = mA
              have cA : Ch FdA mi mA := by rw [← hmA]; exact Ch.i (Ch.i (Ch.i Ch.rf (Or.inr rfl)) (Or.inr rfl)) (Or.inr rfl)
              have t0 : gI mA 321 0 = nI (nm ca) := by rw [← hmA, gI_s, upd_ne (by decide), gI_s, upd_ne (by decide), gI_s, upd_eq]; rw [eca]
              have t1 : gI mA 321 1 = nI (nm cb) := by rw [← hmA, gI_s, upd_ne (by decide), gI_s, upd_eq]; rw [ecb]
              have t2 : gI mA 321 2 = -1 := by rw [← hmA, gI_s, upd_eq]
              have hx := CX12 cA hx
              have hm := mdF cA hm
              have hwc0 : ∀ c, c < 40 → (wW (gI mA 321) c ↔ (w2 ca cb) c) := fun c zc => by
                have z0 : c < 40 ∧ True := ⟨zc, trivial⟩
                exact ⟨fun z => z.elim (fun z => z.elim (fun z => Or.inl ((wW_2 lca z0.1 t0).mp z)) (fun z => Or.inr ((wW_2 lcb z0.1 t1).mp z))) (fun z => absurd z ((wW_1 t2).resolve_right (by omega))), fun z => z.elim (fun z => Or.inl (Or.inl ((wW_2 lca z0.1 t0).mpr z))) (fun z => Or.inl (Or.inr ((wW_2 lcb z0.1 t1).mpr z)))⟩
              have hwf : ¬ wW (gI mA 321) f := (fun z => ((hwc0 f hf4).mp z).elim (fun z => hca.1.2 z.symm) (fun z => hcb.1.2 z.symm))
              have hwg : ¬ wW (gI mA 321) g := (fun z => ((hwc0 g hg4).mp z).elim (fun z => hca.2 z.symm) (fun z => hcb.2 z.symm))
              have hGd : Gd (qS P (gI mA 316) t) f g (wW (gI mA 321)) ↔ Gd (qS P (gI m 316) t) f g (w2 ca cb) := by
                rw [show gI mA 316 = gI m 316 from (cj.tr cA).at (by unfold FdA; omega)]
                exact Gd_c (fun c z => hwc0 c z.1)
              refine go_aload_n (q := 0) (i := 0) rfl rfl dX12_findsWatch_183 ?_
              refine go_iload_n (q := 1) (i := 1) rfl rfl dX12_findsWatch_184 ?_
              refine go_iload_n (q := 2) (i := 2) rfl rfl dX12_findsWatch_185 ?_
              refine go_iload_n (q := 3) (i := 3) rfl rfl dX12_findsWatch_186 ?_
              refine go_callV okmX12_isOpen lmX12_469 ⟨nle rfl, nle rfl⟩ hx.o ⟨by decide, rfl⟩ (ex_isOpen hx hm ok hf4 hg4 hlf hlg hfg ht hwf hwg) npmX12_isOpen rfl (nle rfl) ⟨nle rfl, nle rfl⟩ dX12_findsWatch_187 ?_
              rintro _ m3 ⟨rfl, cO⟩
              rw [show pit (Gd (qS P (gI mA 316) t) f g (wW (gI mA 321))) (nI 0) (nI 1) = pit (Gd (qS P (gI m 316) t) f g (w2 ca cb)) (nI 0) (nI 1) by rw [propext hGd]]
              have cF : Ch FdA m m3 := (cj.tr cA).tr (cO.mn (fun x hx => Or.inl hx))
              refine go_c1 ?_
              refine go_if_ne (tgt := 195) dX12_findsWatch_190 (by decide) (fun h190 => ?_) (fun h190 => ?_)
              · skip
                refine gn_inc (i := 7) (a := 99) (q := 1) rfl dX12_findsWatch_195 (nle rfl) rfl ?_
                refine go_goto (tgt := 102) dX12_findsWatch_198 (by decide) ?_
                refine go_L (L' := [some (.ref 274), some (.int (nI ((nm f)))), some (.int (nI ((nm g)))), some (.int (nI t)), some (.int (nI 2)), some (.int (nI i)), some (.int (nI j)), some (.int (nI (99 + 1)))]) rfl ?_
                refine go_iload (i := 7) rfl dX12_findsWatch_102 ?_
                refine go_bipush (v := nI 100) (by decide) dX12_findsWatch_104 ?_
                refine gn_ge (by omega) (by omega) (tgt := 201) dX12_findsWatch_106 (by decide) (fun h106 => ?_) (fun h106 => by exfalso; omega)
                refine gn_inc (i := 6) (a := j) (q := 1) rfl dX12_findsWatch_201 (nle rfl) rfl ?_
                refine go_goto (tgt := 57) dX12_findsWatch_204 (by decide) ?_
                refine ihj _ (by omega) cF (fun a b ea z y => ?_) _
                by_cases e : nm b = j
                · rw [show b = cb from nm_inj (e.trans ecb), show a = ca from nm_inj (ea.symm.trans eca)] at y
                  exact h190 (pz'.mpr y.2.2.2)
                · exact hnb a b ea (by omega) y
              · skip
                refine go_iconst (v := nI 1) (by decide) dX12_findsWatch_193 ?_
                refine go_zret rfl (by decide) ⟨Nat.zero_le _, Nat.zero_le _⟩ dX12_findsWatch_194 ?_
                refine ⟨cF, Or.inl ⟨rfl, ca, cb, ⟨⟨nm_mono.mp (by omega), hca, hcb, pz'.mp h190⟩, fun a b z y => ?_⟩, ?_, ?_⟩⟩
                · rcases z with z | ⟨rfl, z⟩
                  · exact hn a b (by rw [eca]; exact nm_mono.mpr z) y
                  · exact hnb a b eca (by rw [ecb]; exact nm_mono.mpr z) y
                · rw [show gI m3 321 = gI mA 321 from cO.at (by omega)]
                  exact t0
                · rw [show gI m3 321 = gI mA 321 from cO.at (by omega)]
                  exact t1
            · skip
              refine go_goto (tgt := 201) dX12_findsWatch_82 (by decide) ?_
              refine gn_inc (i := 6) (a := j) (q := 1) rfl dX12_findsWatch_201 (nle rfl) rfl ?_
              refine go_goto (tgt := 57) dX12_findsWatch_204 (by decide) ?_
              refine ihj _ (by omega) cj (fun a b ea z y => ?_) _
              by_cases e : nm b = j
              · exact absurd ⟨b, e.symm, y.2.2.1⟩ (pz.mp h79)
              · exact hnb a b ea (by omega) y
        exact keyb (i + 1) (by omega) mi (by omega) cj (fun a b ea z y => by have := nm_mono.mpr y.1; omega) _
      · skip
        refine go_goto (tgt := 207) dX12_findsWatch_37 (by decide) ?_
        refine gn_inc (i := 5) (a := i) (q := 1) rfl dX12_findsWatch_207 (nle rfl) rfl ?_
        refine go_goto (tgt := 13) dX12_findsWatch_210 (by decide) ?_
        refine ih _ cj (fun a b z y => ?_) _ _
        by_cases e : nm a = i
        · exact absurd ⟨a, e.symm, y.2.1⟩ (pz.mp h34)
        · exact hn a b (by omega) y
  refine go_iload (i := 4) rfl dX12_findsWatch_0 ?_
  refine gz_le (by omega) (tgt := 9) dX12_findsWatch_2 (by decide) (fun h2 => by exfalso; omega) (fun h2 => ?_)
  refine go_iconst (v := nI 0) (by decide) dX12_findsWatch_5 ?_
  refine go_goto (tgt := 11) dX12_findsWatch_6 (by decide) ?_
  refine go_istore (i := 5) dX12_findsWatch_11 (nle rfl) (nle rfl) ?_
  exact key 0 (Nat.zero_le _) m Ch.rf (fun a b h => absurd h (Nat.not_lt_zero _)) _ _
set_option maxRecDepth 100000 in
set_option maxHeartbeats 8000000 in
theorem ex_finds3 {m : Me} {P : Pl} {lv : Nat} (hx : Wf12 m.1 (gR m)) (hm : MdC m P lv) (ok : PlOk P) {f g t : Nat} (hf4 : f < 40) (hg4 : g < 40) (hlf : ld P f) (hlg : ld P g) (hfg : ¬ g = f) (ht : t ≤ 99) : Ev mX12_findsWatch [.ref 274, .int (nI (nm f)), .int (nI (nm g)), .int (nI t), .int (nI 3)] m (fun o m' => Ch FdA m m' ∧ ((o = some (.int (nI 1)) ∧ (∃ a b d, F3 (qS P (gI m 316) t) f g a b d ∧ gI m' 321 0 = nI (nm a) ∧ gI m' 321 1 = nI (nm b) ∧ gI m' 321 2 = nI (nm d))) ∨ (o = some (.int (nI 0)) ∧ N3 (qS P (gI m 316) t) f g))) := by
  refine ⟨plmX12_findsWatch, nle rfl, ?_⟩
  have hnf := nm_lt hf4
  have hng := nm_lt hg4
  have hx0 := hx
  have hm0 := hm
  have key : ∀ i, i ≤ 100 → ∀ mi : Me, Ch FdA m mi → (∀ a b d, nm a < i → ¬ T3 (qS P (gI m 316) t) f g a b d) → ∀ x6 x7 : Option Value, Go mX12_findsWatch (fun o m' => Ch FdA m m' ∧ ((o = some (.int (nI 1)) ∧ (∃ a b d, F3 (qS P (gI m 316) t) f g a b d ∧ gI m' 321 0 = nI (nm a) ∧ gI m' 321 1 = nI (nm b) ∧ gI m' 321 2 = nI (nm d))) ∨ (o = some (.int (nI 0)) ∧ N3 (qS P (gI m 316) t) f g))) 13 [some (.ref 274), some (.int (nI (nm f))), some (.int (nI (nm g))), some (.int (nI t)), some (.int (nI 3)), some (.int (nI i)), x6, x7] [] mi 0 0 := by
    refine loop_up 100 ?_ ?_
    · intro mi cj hn x6 x7
      have hx := CX12 cj hx0
      have hm := mdF cj hm0
      refine go_iload (i := 5) rfl dX12_findsWatch_13 ?_
      refine go_bipush (v := nI 100) (by decide) dX12_findsWatch_15 ?_
      refine gn_ge (by omega) (by omega) (tgt := 213) dX12_findsWatch_17 (by decide) (fun h17 => ?_) (fun h17 => by exfalso; omega)
      refine go_iconst (v := nI 0) (by decide) dX12_findsWatch_213 ?_
      refine go_zret rfl (by decide) ⟨Nat.zero_le _, Nat.zero_le _⟩ dX12_findsWatch_214 ?_
      exact ⟨cj, Or.inr ⟨rfl, fun a b d h => hn a b d (by have := nm_lt h.2.2.1.1.1.1; omega) h⟩⟩
    · intro i hi ih mi cj hn x6 x7
      have hx := CX12 cj hx0
      have hm := mdF cj hm0
      refine go_iload (i := 5) rfl dX12_findsWatch_13 ?_
      refine go_bipush (v := nI 100) (by decide) dX12_findsWatch_15 ?_
      refine gn_ge (by omega) (by omega) (tgt := 213) dX12_findsWatch_17 (by decide) (fun h17 => by exfalso; omega) (fun h17 => ?_)
      refine go_iload (i := 4) rfl dX12_findsWatch_20 ?_
      refine gz_le (by omega) (tgt := 40) dX12_findsWatch_22 (by decide) (fun h22 => by exfalso; omega) (fun h22 => ?_)
      refine go_aload_n (q := 0) (i := 0) rfl rfl dX12_findsWatch_25 ?_
      refine go_iload (i := 5) rfl dX12_findsWatch_26 ?_
      refine go_iload_n (q := 1) (i := 1) rfl rfl dX12_findsWatch_28 ?_
      refine go_iload_n (q := 2) (i := 2) rfl rfl dX12_findsWatch_29 ?_
      refine go_iload_n (q := 3) (i := 3) rfl rfl dX12_findsWatch_30 ?_
      refine go_callV okmX12_mayWatch lmX12_465 ⟨nle rfl, nle rfl⟩ hx.o ⟨by decide, rfl⟩ (ex_mayWatch hx hm ok hf4 hg4 hlf hlg hfg ht (n := i) (by omega)) npmX12_mayWatch rfl (nle rfl) ⟨nle rfl, nle rfl⟩ dX12_findsWatch_31 ?_
      rintro _ mz ⟨rfl, hz⟩
      subst mz
      rw [show gI mi 316 = gI m 316 from cj.at (by unfold FdA; omega)]
      refine go_c1 ?_
      refine go_if_ne (tgt := 40) dX12_findsWatch_34 (by decide) (fun h34 => ?_) (fun h34 => ?_)
      · skip
        refine go_iload (i := 4) rfl dX12_findsWatch_40 ?_
        refine go_iconst (v := nI 1) (by decide) dX12_findsWatch_42 ?_
        refine gn_le (by omega) (by omega) (tgt := 53) dX12_findsWatch_43 (by decide) (fun h43 => by exfalso; omega) (fun h43 => ?_)
        refine go_iload (i := 5) rfl dX12_findsWatch_46 ?_
        refine go_iconst (v := nI 1) (by decide) dX12_findsWatch_48 ?_
        refine gn_add dX12_findsWatch_49 ?_
        refine go_goto (tgt := 55) dX12_findsWatch_50 (by decide) ?_
        refine go_istore (i := 6) dX12_findsWatch_55 (nle rfl) (nle rfl) ?_
        have keyb : ∀ j, j ≤ 100 → ∀ mi : Me, i < j → Ch FdA m mi → (∀ a b d, i = nm a → nm b < j → ¬ T3 (qS P (gI m 316) t) f g a b d) → ∀ x7 : Option Value, Go mX12_findsWatch (fun o m' => Ch FdA m m' ∧ ((o = some (.int (nI 1)) ∧ (∃ a b d, F3 (qS P (gI m 316) t) f g a b d ∧ gI m' 321 0 = nI (nm a) ∧ gI m' 321 1 = nI (nm b) ∧ gI m' 321 2 = nI (nm d))) ∨ (o = some (.int (nI 0)) ∧ N3 (qS P (gI m 316) t) f g))) 57 [some (.ref 274), some (.int (nI (nm f))), some (.int (nI (nm g))), some (.int (nI t)), some (.int (nI 3)), some (.int (nI i)), some (.int (nI j)), x7] [] mi 0 0 := by
          refine loop_up 100 ?_ ?_
          · intro mi hij cj hnb x7
            have hx := CX12 cj hx0
            have hm := mdF cj hm0
            refine go_L (L' := [some (.ref 274), some (.int (nI ((nm f)))), some (.int (nI ((nm g)))), some (.int (nI t)), some (.int (nI 3)), some (.int (nI i)), some (.int (nI 100)), x7]) rfl ?_
            refine go_iload (i := 6) rfl dX12_findsWatch_57 ?_
            refine go_bipush (v := nI 100) (by decide) dX12_findsWatch_59 ?_
            refine gn_ge (by omega) (by omega) (tgt := 207) dX12_findsWatch_61 (by decide) (fun h61 => ?_) (fun h61 => by exfalso; omega)
            refine gn_inc (i := 5) (a := i) (q := 1) rfl dX12_findsWatch_207 (nle rfl) rfl ?_
            refine go_goto (tgt := 13) dX12_findsWatch_210 (by decide) ?_
            refine ih _ cj (fun a b d z y => ?_) _ _
            by_cases e : nm a = i
            · exact hnb a b d e.symm (by have := nm_lt y.2.2.2.1.1.1.1; omega) y
            · exact hn a b d (by omega) y
          · intro j hj ihj mi hij cj hnb x7
            have hx := CX12 cj hx0
            have hm := mdF cj hm0
            refine go_L (L' := [some (.ref 274), some (.int (nI ((nm f)))), some (.int (nI ((nm g)))), some (.int (nI t)), some (.int (nI 3)), some (.int (nI i)), some (.int (nI j)), x7]) rfl ?_
            refine go_iload (i := 6) rfl dX12_findsWatch_57 ?_
            refine go_bipush (v := nI 100) (by decide) dX12_findsWatch_59 ?_
            refine gn_ge (by omega) (by omega) (tgt := 207) dX12_findsWatch_61 (by decide) (fun h61 => by exfalso; omega) (fun h61 => ?_)
            refine go_iload (i := 4) rfl dX12_findsWatch_64 ?_
            refine go_iconst (v := nI 1) (by decide) dX12_findsWatch_66 ?_
            refine gn_le (by omega) (by omega) (tgt := 85) dX12_findsWatch_67 (by decide) (fun h67 => by exfalso; omega) (fun h67 => ?_)
            refine go_aload_n (q := 0) (i := 0) rfl rfl dX12_findsWatch_70 ?_
            refine go_iload (i := 6) rfl dX12_findsWatch_71 ?_
            refine go_iload_n (q := 1) (i := 1) rfl rfl dX12_findsWatch_73 ?_
            refine go_iload_n (q := 2) (i := 2) rfl rfl dX12_findsWatch_74 ?_
            refine go_iload_n (q := 3) (i := 3) rfl rfl dX12_findsWatch_75 ?_
            refine go_callV okmX12_mayWatch lmX12_465 ⟨nle rfl, nle rfl⟩ hx.o ⟨by decide, rfl⟩ (ex_mayWatch hx hm ok hf4 hg4 hlf hlg hfg ht (n := j) (by omega)) npmX12_mayWatch rfl (nle rfl) ⟨nle rfl, nle rfl⟩ dX12_findsWatch_76 ?_
            rintro _ mz ⟨rfl, hz⟩
            subst mz
            rw [show gI mi 316 = gI m 316 from cj.at (by unfold FdA; omega)]
            refine go_c1 ?_
            refine go_if_ne (tgt := 85) dX12_findsWatch_79 (by decide) (fun h79 => ?_) (fun h79 => ?_)
            · skip
              refine go_iload (i := 4) rfl dX12_findsWatch_85 ?_
              refine go_iconst (v := nI 2) (by decide) dX12_findsWatch_87 ?_
              refine gn_le (by omega) (by omega) (tgt := 98) dX12_findsWatch_88 (by decide) (fun h88 => by exfalso; omega) (fun h88 => ?_)
              refine go_iload (i := 6) rfl dX12_findsWatch_91 ?_
              refine go_iconst (v := nI 1) (by decide) dX12_findsWatch_93 ?_
              refine gn_add dX12_findsWatch_94 ?_
              refine go_goto (tgt := 100) dX12_findsWatch_95 (by decide) ?_
              refine go_istore (i := 7) dX12_findsWatch_100 (nle rfl) (nle rfl) ?_
              have keyd : ∀ k, k ≤ 100 → ∀ mi : Me, j < k → Ch FdA m mi → (∀ a b d, i = nm a → j = nm b → nm d < k → ¬ T3 (qS P (gI m 316) t) f g a b d) → Go mX12_findsWatch (fun o m' => Ch FdA m m' ∧ ((o = some (.int (nI 1)) ∧ (∃ a b d, F3 (qS P (gI m 316) t) f g a b d ∧ gI m' 321 0 = nI (nm a) ∧ gI m' 321 1 = nI (nm b) ∧ gI m' 321 2 = nI (nm d))) ∨ (o = some (.int (nI 0)) ∧ N3 (qS P (gI m 316) t) f g))) 102 [some (.ref 274), some (.int (nI (nm f))), some (.int (nI (nm g))), some (.int (nI t)), some (.int (nI 3)), some (.int (nI i)), some (.int (nI j)), some (.int (nI k))] [] mi 0 0 := by
                refine loop_up 100 ?_ ?_
                · intro mi hjk cj hnd
                  have hx := CX12 cj hx0
                  have hm := mdF cj hm0
                  refine go_L (L' := [some (.ref 274), some (.int (nI ((nm f)))), some (.int (nI ((nm g)))), some (.int (nI t)), some (.int (nI 3)), some (.int (nI i)), some (.int (nI j)), some (.int (nI 100))]) rfl ?_
                  refine go_iload (i := 7) rfl dX12_findsWatch_102 ?_
                  refine go_bipush (v := nI 100) (by decide) dX12_findsWatch_104 ?_
                  refine gn_ge (by omega) (by omega) (tgt := 201) dX12_findsWatch_106 (by decide) (fun h106 => ?_) (fun h106 => by exfalso; omega)
                  refine gn_inc (i := 6) (a := j) (q := 1) rfl dX12_findsWatch_201 (nle rfl) rfl ?_
                  refine go_goto (tgt := 57) dX12_findsWatch_204 (by decide) ?_
                  refine ihj _ (by omega) cj (fun a b d ea z y => ?_) _
                  by_cases e : nm b = j
                  · exact hnd a b d ea e.symm (by have := nm_lt y.2.2.2.2.1.1.1.1; omega) y
                  · exact hnb a b d ea (by omega) y
                · intro k hk ihk mi hjk cj hnd
                  have hx := CX12 cj hx0
                  have hm := mdF cj hm0
                  refine go_L (L' := [some (.ref 274), some (.int (nI ((nm f)))), some (.int (nI ((nm g)))), some (.int (nI t)), some (.int (nI 3)), some (.int (nI i)), some (.int (nI j)), some (.int (nI k))]) rfl ?_
                  refine go_iload (i := 7) rfl dX12_findsWatch_102 ?_
                  refine go_bipush (v := nI 100) (by decide) dX12_findsWatch_104 ?_
                  refine gn_ge (by omega) (by omega) (tgt := 201) dX12_findsWatch_106 (by decide) (fun h106 => by exfalso; omega) (fun h106 => ?_)
                  refine go_iload (i := 4) rfl dX12_findsWatch_109 ?_
                  refine go_iconst (v := nI 2) (by decide) dX12_findsWatch_111 ?_
                  refine gn_le (by omega) (by omega) (tgt := 130) dX12_findsWatch_112 (by decide) (fun h112 => by exfalso; omega) (fun h112 => ?_)
                  refine go_aload_n (q := 0) (i := 0) rfl rfl dX12_findsWatch_115 ?_
                  refine go_iload (i := 7) rfl dX12_findsWatch_116 ?_
                  refine go_iload_n (q := 1) (i := 1) rfl rfl dX12_findsWatch_118 ?_
                  refine go_iload_n (q := 2) (i := 2) rfl rfl dX12_findsWatch_119 ?_
                  refine go_iload_n (q := 3) (i := 3) rfl rfl dX12_findsWatch_120 ?_
                  refine go_callV okmX12_mayWatch lmX12_465 ⟨nle rfl, nle rfl⟩ hx.o ⟨by decide, rfl⟩ (ex_mayWatch hx hm ok hf4 hg4 hlf hlg hfg ht (n := k) (by omega)) npmX12_mayWatch rfl (nle rfl) ⟨nle rfl, nle rfl⟩ dX12_findsWatch_121 ?_
                  rintro _ mz ⟨rfl, hz⟩
                  subst mz
                  rw [show gI mi 316 = gI m 316 from cj.at (by unfold FdA; omega)]
                  refine go_c1 ?_
                  refine go_if_ne (tgt := 130) dX12_findsWatch_124 (by decide) (fun h124 => ?_) (fun h124 => ?_)
                  · skip
                    refine go_L (L' := [some (.ref 274), some (.int (nI ((nm f)))), some (.int (nI ((nm g)))), some (.int (nI t)), some (.int (nI 3)), some (.int (nI i)), some (.int (nI j)), some (.int (nI k))]) rfl ?_
                    refine go_aload_n (q := 0) (i := 0) rfl rfl dX12_findsWatch_130 ?_
                    refine go_getR lf12_158 rfl hx.o hx.r67 dX12_findsWatch_131 ?_
                    refine go_iconst (v := nI 0) (by decide) dX12_findsWatch_134 ?_
                    refine go_iload (i := 4) rfl dX12_findsWatch_135 ?_
                    refine gz_le (by omega) (tgt := 145) dX12_findsWatch_137 (by decide) (fun h137 => by exfalso; omega) (fun h137 => ?_)
                    refine go_iload (i := 5) rfl dX12_findsWatch_140 ?_
                    refine go_goto (tgt := 146) dX12_findsWatch_142 (by decide) ?_
                    refine go_iast (j := 0) hx.i67 (by omega) (by first | decide | omega) rfl dX12_findsWatch_146 ?_
                    refine go_aload_n (q := 0) (i := 0) rfl rfl dX12_findsWatch_147 ?_
                    refine go_getR lf12_158 rfl hx.o hx.r67 dX12_findsWatch_148 ?_
                    refine go_iconst (v := nI 1) (by decide) dX12_findsWatch_151 ?_
                    refine go_iload (i := 4) rfl dX12_findsWatch_152 ?_
                    refine go_iconst (v := nI 1) (by decide) dX12_findsWatch_154 ?_
                    refine gn_le (by omega) (by omega) (tgt := 163) dX12_findsWatch_155 (by decide) (fun h155 => by exfalso; omega) (fun h155 => ?_)
                    refine go_iload (i := 6) rfl dX12_findsWatch_158 ?_
                    refine go_goto (tgt := 164) dX12_findsWatch_160 (by decide) ?_
                    refine go_iast (j := 1) hx.i67 (by omega) (by first | decide | omega) rfl dX12_findsWatch_164 ?_
                    refine go_aload_n (q := 0) (i := 0) rfl rfl dX12_findsWatch_165 ?_
                    refine go_getR lf12_158 rfl hx.o hx.r67 dX12_findsWatch_166 ?_
                    refine go_iconst (v := nI 2) (by decide) dX12_findsWatch_169 ?_
                    refine go_iload (i := 4) rfl dX12_findsWatch_170 ?_
                    refine go_iconst (v := nI 2) (by decide) dX12_findsWatch_172 ?_
                    refine gn_le (by omega) (by omega) (tgt := 181) dX12_findsWatch_173 (by decide) (fun h173 => by exfalso; omega) (fun h173 => ?_)
                    refine go_iload (i := 7) rfl dX12_findsWatch_176 ?_
                    refine go_goto (tgt := 182) dX12_findsWatch_178 (by decide) ?_
                    refine go_iast (j := 2) hx.i67 (by omega) (by first | decide | omega) rfl dX12_findsWatch_182 ?_
                    obtain ⟨ca, eca, hca⟩ := pnz h34
                    obtain ⟨cb, ecb, hcb⟩ := pnz h79
                    obtain ⟨cd, ecd, hcd⟩ := pnz h124
                    have lca : ca < 40 := hca.1.1.1
                    have lcb : cb < 40 := hcb.1.1.1
                    have lcd : cd < 40 := hcd.1.1.1
                    generalize hmA : sI (sI (sI mi 321 _) 321 _) 321 _ = mA
                    have cA : Ch FdA mi mA := by rw [← hmA]; exact Ch.i (Ch.i (Ch.i Ch.rf (Or.inr rfl)) (Or.inr rfl)) (Or.inr rfl)
                    have t0 : gI mA 321 0 = nI (nm ca) := by rw [← hmA, gI_s, upd_ne (by decide), gI_s, upd_ne (by decide), gI_s, upd_eq]; rw [eca]
                    have t1 : gI mA 321 1 = nI (nm cb) := by rw [← hmA, gI_s, upd_ne (by decide), gI_s, upd_eq]; rw [ecb]
                    have t2 : gI mA 321 2 = nI (nm cd) := by rw [← hmA, gI_s, upd_eq]; rw [ecd]
                    have hx := CX12 cA hx
                    have hm := mdF cA hm
                    have hwc0 : ∀ c, c < 40 → (wW (gI mA 321) c ↔ (w3 ca cb cd) c) := fun c zc => by
                      have z0 : c < 40 ∧ True := ⟨zc, trivial⟩
                      exact ⟨fun z => z.elim (fun z => z.elim (fun z => Or.inl (Or.inl ((wW_2 lca z0.1 t0).mp z))) (fun z => Or.inl (Or.inr ((wW_2 lcb z0.1 t1).mp z)))) (fun z => Or.inr ((wW_2 lcd z0.1 t2).mp z)), fun z => z.elim (fun z => z.elim (fun z => Or.inl (Or.inl ((wW_2 lca z0.1 t0).mpr z))) (fun z => Or.inl (Or.inr ((wW_2 lcb z0.1 t1).mpr z)))) (fun z => Or.inr ((wW_2 lcd z0.1 t2).mpr z))⟩
                    have hwf : ¬ wW (gI mA 321) f := (fun z => ((hwc0 f hf4).mp z).elim (fun z => z.elim (fun z => hca.1.2 z.symm) (fun z => hcb.1.2 z.symm)) (fun z => hcd.1.2 z.symm))
                    have hwg : ¬ wW (gI mA 321) g := (fun z => ((hwc0 g hg4).mp z).elim (fun z => z.elim (fun z => hca.2 z.symm) (fun z => hcb.2 z.symm)) (fun z => hcd.2 z.symm))
                    have hGd : Gd (qS P (gI mA 316) t) f g (wW (gI mA 321)) ↔ Gd (qS P (gI m 316) t) f g (w3 ca cb cd) := by
                      rw [show gI mA 316 = gI m 316 from (cj.tr cA).at (by unfold FdA; omega)]
                      exact Gd_c (fun c z => hwc0 c z.1)
                    refine go_aload_n (q := 0) (i := 0) rfl rfl dX12_findsWatch_183 ?_
                    refine go_iload_n (q := 1) (i := 1) rfl rfl dX12_findsWatch_184 ?_
                    refine go_iload_n (q := 2) (i := 2) rfl rfl dX12_findsWatch_185 ?_
                    refine go_iload_n (q := 3) (i := 3) rfl rfl dX12_findsWatch_186 ?_
                    refine go_callV okmX12_isOpen lmX12_469 ⟨nle rfl, nle rfl⟩ hx.o ⟨by decide, rfl⟩ (ex_isOpen hx hm ok hf4 hg4 hlf hlg hfg ht hwf hwg) npmX12_isOpen rfl (nle rfl) ⟨nle rfl, nle rfl⟩ dX12_findsWatch_187 ?_
                    rintro _ m3 ⟨rfl, cO⟩
                    rw [show pit (Gd (qS P (gI mA 316) t) f g (wW (gI mA 321))) (nI 0) (nI 1) = pit (Gd (qS P (gI m 316) t) f g (w3 ca cb cd)) (nI 0) (nI 1) by rw [propext hGd]]
                    have cF : Ch FdA m m3 := (cj.tr cA).tr (cO.mn (fun x hx => Or.inl hx))
                    refine go_c1 ?_
                    refine go_if_ne (tgt := 195) dX12_findsWatch_190 (by decide) (fun h190 => ?_) (fun h190 => ?_)
                    · skip
                      refine gn_inc (i := 7) (a := k) (q := 1) rfl dX12_findsWatch_195 (nle rfl) rfl ?_
                      refine go_goto (tgt := 102) dX12_findsWatch_198 (by decide) ?_
                      refine ihk _ (by omega) cF (fun a b d ea eb z y => ?_)
                      by_cases e : nm d = k
                      · rw [show d = cd from nm_inj (e.trans ecd), show b = cb from nm_inj (eb.symm.trans ecb), show a = ca from nm_inj (ea.symm.trans eca)] at y
                        exact h190 (pz'.mpr y.2.2.2.2.2)
                      · exact hnd a b d ea eb (by omega) y
                    · skip
                      refine go_iconst (v := nI 1) (by decide) dX12_findsWatch_193 ?_
                      refine go_zret rfl (by decide) ⟨Nat.zero_le _, Nat.zero_le _⟩ dX12_findsWatch_194 ?_
                      refine ⟨cF, Or.inl ⟨rfl, ca, cb, cd, ⟨⟨nm_mono.mp (by omega), nm_mono.mp (by omega), hca, hcb, hcd, pz'.mp h190⟩, fun a b d z y => ?_⟩, ?_, ?_, ?_⟩⟩
                      · rcases z with z | ⟨rfl, z | ⟨rfl, z⟩⟩
                        · exact hn a b d (by rw [eca]; exact nm_mono.mpr z) y
                        · exact hnb a b d eca (by rw [ecb]; exact nm_mono.mpr z) y
                        · exact hnd a b d eca ecb (by rw [ecd]; exact nm_mono.mpr z) y
                      · rw [show gI m3 321 = gI mA 321 from cO.at (by omega)]
                        exact t0
                      · rw [show gI m3 321 = gI mA 321 from cO.at (by omega)]
                        exact t1
                      · rw [show gI m3 321 = gI mA 321 from cO.at (by omega)]
                        exact t2
                  · skip
                    refine go_goto (tgt := 195) dX12_findsWatch_127 (by decide) ?_
                    refine gn_inc (i := 7) (a := k) (q := 1) rfl dX12_findsWatch_195 (nle rfl) rfl ?_
                    refine go_goto (tgt := 102) dX12_findsWatch_198 (by decide) ?_
                    refine ihk _ (by omega) cj (fun a b d ea eb z y => ?_)
                    by_cases e : nm d = k
                    · exact absurd ⟨d, e.symm, y.2.2.2.2.1⟩ (pz.mp h124)
                    · exact hnd a b d ea eb (by omega) y
              exact keyd (j + 1) (by omega) mi (by omega) cj (fun a b d ea eb z y => by have := nm_mono.mpr y.2.1; omega)
            · skip
              refine go_goto (tgt := 201) dX12_findsWatch_82 (by decide) ?_
              refine gn_inc (i := 6) (a := j) (q := 1) rfl dX12_findsWatch_201 (nle rfl) rfl ?_
              refine go_goto (tgt := 57) dX12_findsWatch_204 (by decide) ?_
              refine ihj _ (by omega) cj (fun a b d ea z y => ?_) _
              by_cases e : nm b = j
              · exact absurd ⟨b, e.symm, y.2.2.2.1⟩ (pz.mp h79)
              · exact hnb a b d ea (by omega) y
        exact keyb (i + 1) (by omega) mi (by omega) cj (fun a b d ea z y => by have := nm_mono.mpr y.1; omega) _
      · skip
        refine go_goto (tgt := 207) dX12_findsWatch_37 (by decide) ?_
        refine gn_inc (i := 5) (a := i) (q := 1) rfl dX12_findsWatch_207 (nle rfl) rfl ?_
        refine go_goto (tgt := 13) dX12_findsWatch_210 (by decide) ?_
        refine ih _ cj (fun a b d z y => ?_) _ _
        by_cases e : nm a = i
        · exact absurd ⟨a, e.symm, y.2.2.1⟩ (pz.mp h34)
        · exact hn a b d (by omega) y
  refine go_iload (i := 4) rfl dX12_findsWatch_0 ?_
  refine gz_le (by omega) (tgt := 9) dX12_findsWatch_2 (by decide) (fun h2 => by exfalso; omega) (fun h2 => ?_)
  refine go_iconst (v := nI 0) (by decide) dX12_findsWatch_5 ?_
  refine go_goto (tgt := 11) dX12_findsWatch_6 (by decide) ?_
  refine go_istore (i := 5) dX12_findsWatch_11 (nle rfl) (nle rfl) ?_
  exact key 0 (Nat.zero_le _) m Ch.rf (fun a b d h => absurd h (Nat.not_lt_zero _)) _ _
