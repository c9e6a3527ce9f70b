def TR12 : Nat → Option Nat := (va_up (va_up (va_up (va_up (va_up (va_up (va_up (va_up (va_up (va_up (va_up (va_up (va_up (va_up (va_up (va_up (va_up (va_up (va_up (va_up (va_up (va_up (va_up (va_up (va_up (va_up (va_up (va_up (va_up (va_up (va_up (va_up (va_up (va_up (va_up (va_up (va_up (va_up (va_up (va_up (va_up (va_up (va_up (va_up (va_up (va_up (va_up (va_up (va_up (va_up (va_up (va_up (va_up (fun _ => none) 1 (some 275)) 3 (some 276)) 5 (some 277)) 6 (some 278)) 7 (some 279)) 8 (some 280)) 9 (some 281)) 21 (some 282)) 22 (some 283)) 23 (some 284)) 24 (some 285)) 25 (some 286)) 26 (some 287)) 27 (some 288)) 28 (some 289)) 29 (some 290)) 30 (some 291)) 31 (some 292)) 32 (some 293)) 33 (some 294)) 34 (some 295)) 35 (some 296)) 36 (some 297)) 37 (some 298)) 38 (some 299)) 39 (some 300)) 40 (some 301)) 41 (some 302)) 42 (some 303)) 43 (some 304)) 45 (some 305)) 46 (some 306)) 47 (some 307)) 48 (some 308)) 49 (some 309)) 51 (some 310)) 52 (some 311)) 53 (some 312)) 55 (some 313)) 56 (some 314)) 58 (some 315)) 59 (some 316)) 62 (some 317)) 64 (some 318)) 65 (some 319)) 66 (some 320)) 67 (some 321)) 69 (some 322)) 70 (some 323)) 71 (some 324)) 72 (some 325)) 73 (some 326)) 74 (some 327))
set_option maxRecDepth 100000 in
set_option maxHeartbeats 8000000 in
theorem wf12_of {n : Nat} {R : Nat → Nat → Option Nat} (hn : 328 ≤ n) (e : R 274 = TR12) : Wf12 n R := ⟨⟨by decide +kernel, by omega⟩, by rw [e]; rfl, ⟨by decide +kernel, by omega⟩, by rw [e]; rfl, ⟨by decide +kernel, by omega⟩, by rw [e]; rfl, ⟨by decide +kernel, by omega⟩, by rw [e]; rfl, ⟨by decide +kernel, by omega⟩, by rw [e]; rfl, ⟨by decide +kernel, by omega⟩, by rw [e]; rfl, ⟨by decide +kernel, by omega⟩, by rw [e]; rfl, ⟨by decide +kernel, by omega⟩, by rw [e]; rfl, ⟨by decide +kernel, by omega⟩, by rw [e]; rfl, ⟨by decide +kernel, by omega⟩, by rw [e]; rfl, ⟨by decide +kernel, by omega⟩, by rw [e]; rfl, ⟨by decide +kernel, by omega⟩, by rw [e]; rfl, ⟨by decide +kernel, by omega⟩, by rw [e]; rfl, ⟨by decide +kernel, by omega⟩, by rw [e]; rfl, ⟨by decide +kernel, by omega⟩, by rw [e]; rfl, ⟨by decide +kernel, by omega⟩, by rw [e]; rfl, ⟨by decide +kernel, by omega⟩, by rw [e]; rfl, ⟨by decide +kernel, by omega⟩, by rw [e]; rfl, ⟨by decide +kernel, by omega⟩, by rw [e]; rfl, ⟨by decide +kernel, by omega⟩, by rw [e]; rfl, ⟨by decide +kernel, by omega⟩, by rw [e]; rfl, ⟨by decide +kernel, by omega⟩, by rw [e]; rfl, ⟨by decide +kernel, by omega⟩, by rw [e]; rfl, ⟨by decide +kernel, by omega⟩, by rw [e]; rfl, ⟨by decide +kernel, by omega⟩, by rw [e]; rfl, ⟨by decide +kernel, by omega⟩, by rw [e]; rfl, ⟨by decide +kernel, by omega⟩, by rw [e]; rfl, ⟨by decide +kernel, by omega⟩, by rw [e]; rfl, ⟨by decide +kernel, by omega⟩, by rw [e]; rfl, ⟨by decide +kernel, by omega⟩, by rw [e]; rfl, ⟨by decide +kernel, by omega⟩, by rw [e]; rfl, ⟨by decide +kernel, by omega⟩, by rw [e]; rfl, ⟨by decide +kernel, by omega⟩, by rw [e]; rfl, ⟨by decide +kernel, by omega⟩, by rw [e]; rfl, ⟨by decide +kernel, by omega⟩, by rw [e]; rfl, ⟨by decide +kernel, by omega⟩, by rw [e]; rfl, ⟨by decide +kernel, by omega⟩, by rw [e]; rfl, ⟨by decide +kernel, by omega⟩, by rw [e]; rfl, ⟨by decide +kernel, by omega⟩, by rw [e]; rfl, ⟨by decide +kernel, by omega⟩, by rw [e]; rfl, ⟨by decide +kernel, by omega⟩, by rw [e]; rfl, ⟨by decide +kernel, by omega⟩, by rw [e]; rfl, ⟨by decide +kernel, by omega⟩, by rw [e]; rfl, ⟨by decide +kernel, by omega⟩, by rw [e]; rfl, ⟨by decide +kernel, by omega⟩, by rw [e]; rfl, ⟨by decide +kernel, by omega⟩, by rw [e]; rfl, ⟨by decide +kernel, by omega⟩, by rw [e]; rfl, ⟨by decide +kernel, by omega⟩, by rw [e]; rfl, ⟨by decide +kernel, by omega⟩, by rw [e]; rfl, ⟨by decide +kernel, by omega⟩, by rw [e]; rfl, ⟨by decide +kernel, by omega⟩, by rw [e]; rfl, ⟨by decide +kernel, by omega⟩, by rw [e]; rfl, ⟨by decide +kernel, by omega⟩, by rw [e]; rfl, ⟨by decide +kernel, by omega⟩⟩
theorem go_putIE {M : MD} {Q : Option Value → Me → Prop} {pc : Nat} {L : List (Option Value)} {S : List Value} {cc zz n a idx ci k : Nat} {I : Nat → Nat → Int32} {J : Nat → Nat → Int64} {X : Nat → Nat → Option Nat} {x : Int32} (f : LkF M.y.cls idx ci k) (ht : clTy ci k = .int) (hfin : FinOk M idx ci k) (hs : SH a = (0, ci)) (hlt : a < n) (d : decode M.b pc = .ok (.putfield idx, 3)) (kk : ∀ I', I' = va_up I a (upd (I a) k x) → Go M Q (pc + 3) L S (n, I', J, X) cc zz) : Go M Q pc L (.int x :: .ref a :: S) (n, I, J, X) cc zz :=
  go_putI f ht hfin ⟨hs, hlt⟩ d (kk _ rfl)
set_option maxRecDepth 100000 in
set_option maxHeartbeats 4000000 in
theorem ex_word {m : Me} {c0 c1 c2 c3 c4 c5 c6 : Int32} : Ev mX12_word [.int c0, .int c1, .int c2, .int c3, .int c4, .int c5, .int c6] m (fun o m' => o = some (.long (apS (apS (apS (apS (apS (apS (apS 0 c0) c1) c2) c3) c4) c5) c6)) ∧ m' = m) := by
  refine ⟨plmX12_word, nle rfl, ?_⟩
  refine go_lconst (v := 0) (by decide) dX12_word_0 ?_
  refine go_iload_n (q := 0) (i := 0) rfl rfl dX12_word_1 ?_
  refine go_callS okmX12_appends lmX12_204 ⟨nle rfl, nle rfl⟩ (ex_appends) npmX12_appends rfl (nle rfl) ⟨nle rfl, nle rfl⟩ dX12_word_2 ?_
  rintro _ _ ⟨rfl, rfl⟩
  refine go_c1 ?_
  refine go_iload_n (q := 1) (i := 1) rfl rfl dX12_word_5 ?_
  refine go_callS okmX12_appends lmX12_204 ⟨nle rfl, nle rfl⟩ (ex_appends) npmX12_appends rfl (nle rfl) ⟨nle rfl, nle rfl⟩ dX12_word_6 ?_
  rintro _ _ ⟨rfl, rfl⟩
  refine go_c1 ?_
  refine go_iload_n (q := 2) (i := 2) rfl rfl dX12_word_9 ?_
  refine go_callS okmX12_appends lmX12_204 ⟨nle rfl, nle rfl⟩ (ex_appends) npmX12_appends rfl (nle rfl) ⟨nle rfl, nle rfl⟩ dX12_word_10 ?_
  rintro _ _ ⟨rfl, rfl⟩
  refine go_c1 ?_
  refine go_iload_n (q := 3) (i := 3) rfl rfl dX12_word_13 ?_
  refine go_callS okmX12_appends lmX12_204 ⟨nle rfl, nle rfl⟩ (ex_appends) npmX12_appends rfl (nle rfl) ⟨nle rfl, nle rfl⟩ dX12_word_14 ?_
  rintro _ _ ⟨rfl, rfl⟩
  refine go_c1 ?_
  refine go_iload (i := 4) rfl dX12_word_17 ?_
  refine go_callS okmX12_appends lmX12_204 ⟨nle rfl, nle rfl⟩ (ex_appends) npmX12_appends rfl (nle rfl) ⟨nle rfl, nle rfl⟩ dX12_word_19 ?_
  rintro _ _ ⟨rfl, rfl⟩
  refine go_c1 ?_
  refine go_iload (i := 5) rfl dX12_word_22 ?_
  refine go_callS okmX12_appends lmX12_204 ⟨nle rfl, nle rfl⟩ (ex_appends) npmX12_appends rfl (nle rfl) ⟨nle rfl, nle rfl⟩ dX12_word_24 ?_
  rintro _ _ ⟨rfl, rfl⟩
  refine go_c1 ?_
  refine go_iload (i := 6) rfl dX12_word_27 ?_
  refine go_callS okmX12_appends lmX12_204 ⟨nle rfl, nle rfl⟩ (ex_appends) npmX12_appends rfl (nle rfl) ⟨nle rfl, nle rfl⟩ dX12_word_29 ?_
  rintro _ _ ⟨rfl, rfl⟩
  refine go_c1 ?_
  refine go_lret rfl ⟨Nat.zero_le _, Nat.zero_le _⟩ dX12_word_32 ?_
  exact ⟨rfl, rfl⟩
theorem go_cL {M : MD} {Q : Option Value → Me → Prop} {pc : Nat} {L : List (Option Value)} {S : List Value} {m : Me} {cc zz : Nat} {v : Value} (h : Go M Q pc L (v :: S) m cc zz) : Go M Q pc L ((some v).toList ++ S) m (cc + 0) (zz + 0) := h
/-- what the words' names change -/
def KwF (m m' : Me) : Prop := m'.1 = m.1 ∧ gI m' = gI m ∧ gR m' = gR m ∧ ∀ x, x ≠ 281 → gJ m' x = gJ m x
theorem go_kw {M : MD} {Q : Option Value → Me → Prop} {pc : Nat} {L : List (Option Value)} {S : List Value} {m0 m : Me} {cc zz j : Nat} (hk : ∀ k, k < j → gJ m 281 k = kwM k) (hx : Wf12 m.1 (gR m)) (hf : KwF m0 m) (h : ∀ m' : Me, (∀ k, k < j + 1 → gJ m' 281 k = kwM k) → Wf12 m'.1 (gR m') → KwF m0 m' → Go M Q pc L S m' cc zz) : Go M Q pc L S (sJ m 281 (vp_updL (gJ m 281) j (kwM j))) cc zz := by
  refine h _ (fun k hk2 => ?_) hx ⟨hf.1, hf.2.1, hf.2.2.1, fun x hx => (up_n hx).trans (hf.2.2.2 x hx)⟩
  show va_up (gJ m) 281 (vp_updL (gJ m 281) j (kwM j)) 281 k = _
  rw [up_s]
  unfold vp_updL
  by_cases e : k = j
  · rw [if_pos e, e]
  · rw [if_neg e]; exact hk k (by omega)
/-- the reference as it is made, beside the class's object -/
def MkR (m m' : Me) : Prop := m'.1 = 328 ∧ Wf12 m'.1 (gR m') ∧ (∀ x, x < 274 → gI m' x = gI m x ∧ gJ m' x = gJ m x ∧ gR m' x = gR m x) ∧ (∀ k, k < 23 → gJ m' 281 k = kwM k) ∧ MdC m' (plD drZ) 0 ∧ (∀ k, k < 105 → gI m' 315 k = bgM (plD drZ) k) ∧ gI m' 274 17 = -1 ∧ gI m' 274 2 = nI 0 ∧ gI m' 274 54 = nI 0 ∧ gI m' 274 63 = nI 0 ∧ gI m' 274 68 = nI 0 ∧ (gI m' 320 = fun _ => 0) ∧ gI m' 326 = fun _ => 0
theorem plZ : PlOk (plD drZ) := plD_ok drZ_ok.1 CnZ laZ
abbrev FYq (m m' : Me) : Prop := Fx (fun x => 284 ≤ x ∧ x ≤ 304 ∧ x ≠ 287) (fun _ => False) m m'
set_option maxRecDepth 100000 in
set_option maxHeartbeats 8000000 in
theorem ex_plainq {m : Me} {sd : Nat} (hx : Wf12 m.1 (gR m)) (hs2 : sd < 2) : Ev mX12_plain [.ref 274, .int (nI sd)] m (fun o m' => o = none ∧ RzU m' sd ∧ (∀ k, k < 4 → gI m' 303 (4 * sd + k) = nI 0 ∧ gI m' 304 (4 * sd + k) = nI 0) ∧ FYq m m' ∧ FS sd m m') := by
  refine ⟨plmX12_plain, nle rfl, ?_⟩
  have key : ∀ i, i ≤ 4 → ∀ (m9 : Me), RzU m9 sd → (∀ k, k < i → gI m9 303 (4 * sd + k) = nI 0 ∧ gI m9 304 (4 * sd + k) = nI 0) → FYq m m9 → FS sd m m9 → Go mX12_plain (fun o m' => o = none ∧ RzU m' sd ∧ (∀ k, k < 4 → gI m' 303 (4 * sd + k) = nI 0 ∧ gI m' 304 (4 * sd + k) = nI 0) ∧ FYq m m' ∧ FS sd m m') 58 [some (.ref 274), some (.int (nI sd)), some (.int (nI i))] [] m9 0 0 := by
    refine loop_up 4 ?_ ?_
    · intro m9 hz hl fy fs
      have hx : Wf12 m9.1 (gR m9) := fy.to (F := Wf12) hx
      refine go_iload_n (q := 2) (i := 2) rfl rfl dX12_plain_58 ?_
      refine go_iconst (v := nI 4) (by decide) dX12_plain_59 ?_
      refine gn_ge (by omega) (by omega) (tgt := 91) dX12_plain_60 (by decide) (fun h60 => ?_) (fun h60 => by exfalso; omega)
      refine go_vret rfl ⟨Nat.zero_le _, Nat.zero_le _⟩ dX12_plain_91 ?_
      exact ⟨rfl, hz, hl, fy, fs⟩
    · intro i hi ih m9 hz hl fy fs
      have hx : Wf12 m9.1 (gR m9) := fy.to (F := Wf12) hx
      refine go_iload_n (q := 2) (i := 2) rfl rfl dX12_plain_58 ?_
      refine go_iconst (v := nI 4) (by decide) dX12_plain_59 ?_
      refine gn_ge (by omega) (by omega) (tgt := 91) dX12_plain_60 (by decide) (fun h60 => by exfalso; omega) (fun h60 => ?_)
      refine go_aload_n (q := 0) (i := 0) rfl rfl dX12_plain_63 ?_
      refine go_getR lf12_103 rfl hx.o hx.r42 dX12_plain_64 ?_
      refine go_iconst (v := nI 4) (by decide) dX12_plain_67 ?_
      refine go_iload_n (q := 1) (i := 1) rfl rfl dX12_plain_68 ?_
      refine gn_mul dX12_plain_69 ?_
      refine go_iload_n (q := 2) (i := 2) rfl rfl dX12_plain_70 ?_
      refine gn_add dX12_plain_71 ?_
      refine go_iconst (v := nI 0) (by decide) dX12_plain_72 ?_
      refine go_iast (j := ((4 * sd) + i)) hx.i42 (by omega) (by first | decide | omega) rfl dX12_plain_73 ?_
      refine go_aload_n (q := 0) (i := 0) rfl rfl dX12_plain_74 ?_
      refine go_getR lf12_106 rfl hx.o hx.r43 dX12_plain_75 ?_
      refine go_iconst (v := nI 4) (by decide) dX12_plain_78 ?_
      refine go_iload_n (q := 1) (i := 1) rfl rfl dX12_plain_79 ?_
      refine gn_mul dX12_plain_80 ?_
      refine go_iload_n (q := 2) (i := 2) rfl rfl dX12_plain_81 ?_
      refine gn_add dX12_plain_82 ?_
      refine go_iconst (v := nI 0) (by decide) dX12_plain_83 ?_
      refine go_iast (j := ((4 * sd) + i)) hx.i43 (by omega) (by first | decide | omega) rfl dX12_plain_84 ?_
      refine gn_inc (i := 2) (a := i) (q := 1) rfl dX12_plain_85 (nle rfl) rfl ?_
      refine go_goto (tgt := 58) dX12_plain_88 (by decide) ?_
      refine ih _ (hz.keep (fun x a b => by rw [gI_n (by omega), gI_n (by omega)])) (fun k hk => ?_) (Fx.I (Fx.I fy (by decide)) (by decide)) ((fs.up (SD.of (b := 4) (i := i) rfl rfl (by omega))).up (SD.of (b := 4) (i := i) rfl rfl (by omega)))
      rw [gI_n (show 303 ≠ 304 by decide), gI_s, gI_s, gI_n (show 304 ≠ 303 by decide), upd_c, upd_c]
      by_cases e : k = i
      · rw [if_pos (by omega), if_pos (by omega)]; exact ⟨rfl, rfl⟩
      · rw [if_neg (by omega), if_neg (by omega)]; exact hl k (by omega)
  have fs : FS sd m m := fun _ _ _ _ _ => rfl
  have fy : FYq m m := Fx.rf
  refine go_aload_n (q := 0) (i := 0) rfl rfl dX12_plain_0 ?_
  refine go_getR lf12_46 rfl hx.o hx.r23 dX12_plain_1 ?_
  refine go_iload_n (q := 1) (i := 1) rfl rfl dX12_plain_4 ?_
  refine go_iconst (v := nI 0) (by decide) dX12_plain_5 ?_
  refine go_iast (j := sd) hx.i23 (by omega) (by first | decide | omega) rfl dX12_plain_6 ?_
  generalize hmE : sI m 284 (upd (gI m 284) sd (nI 0)) = m1
  have fs : FS sd m m1 := by rw [← hmE]; exact fs.up (SD.at rfl)
  have fy : FYq m m1 := by rw [← hmE]; exact Fx.I fy (by decide)
  have hx : Wf12 m1.1 (gR m1) := by rw [← hmE]; exact hx
  have q284 : gI m1 284 sd = nI 0 := by rw [← hmE, gI_s, upd_same]
  clear hmE
  refine go_aload_n (q := 0) (i := 0) rfl rfl dX12_plain_7 ?_
  refine go_getR lf12_49 rfl hx.o hx.r24 dX12_plain_8 ?_
  refine go_iload_n (q := 1) (i := 1) rfl rfl dX12_plain_11 ?_
  refine go_iconst (v := nI 0) (by decide) dX12_plain_12 ?_
  refine go_iast (j := sd) hx.i24 (by omega) (by first | decide | omega) rfl dX12_plain_13 ?_
  generalize hmE : sI m1 285 (upd (gI m1 285) sd (nI 0)) = m2
  have fs : FS sd m m2 := by rw [← hmE]; exact fs.up (SD.at rfl)
  have fy : FYq m m2 := by rw [← hmE]; exact Fx.I fy (by decide)
  have hx : Wf12 m2.1 (gR m2) := by rw [← hmE]; exact hx
  have q285 : gI m2 285 sd = nI 0 := by rw [← hmE, gI_s, upd_same]
  have q284 : gI m2 284 sd = nI 0 := by rw [← hmE, gI_n (by decide)]; exact q284
  clear hmE
  refine go_aload_n (q := 0) (i := 0) rfl rfl dX12_plain_14 ?_
  refine go_getR lf12_58 rfl hx.o hx.r27 dX12_plain_15 ?_
  refine go_iload_n (q := 1) (i := 1) rfl rfl dX12_plain_18 ?_
  refine go_iconst (v := nI 0) (by decide) dX12_plain_19 ?_
  refine go_iast (j := sd) hx.i27 (by omega) (by first | decide | omega) rfl dX12_plain_20 ?_
  generalize hmE : sI m2 288 (upd (gI m2 288) sd (nI 0)) = m3
  have fs : FS sd m m3 := by rw [← hmE]; exact fs.up (SD.at rfl)
  have fy : FYq m m3 := by rw [← hmE]; exact Fx.I fy (by decide)
  have hx : Wf12 m3.1 (gR m3) := by rw [← hmE]; exact hx
  have q288 : gI m3 288 sd = nI 0 := by rw [← hmE, gI_s, upd_same]
  have q284 : gI m3 284 sd = nI 0 := by rw [← hmE, gI_n (by decide)]; exact q284
  have q285 : gI m3 285 sd = nI 0 := by rw [← hmE, gI_n (by decide)]; exact q285
  clear hmE
  refine go_aload_n (q := 0) (i := 0) rfl rfl dX12_plain_21 ?_
  refine go_getR lf12_67 rfl hx.o hx.r30 dX12_plain_22 ?_
  refine go_iload_n (q := 1) (i := 1) rfl rfl dX12_plain_25 ?_
  refine go_iconst (v := nI 0) (by decide) dX12_plain_26 ?_
  refine go_iast (j := sd) hx.i30 (by omega) (by first | decide | omega) rfl dX12_plain_27 ?_
  generalize hmE : sI m3 291 (upd (gI m3 291) sd (nI 0)) = m4
  have fs : FS sd m m4 := by rw [← hmE]; exact fs.up (SD.at rfl)
  have fy : FYq m m4 := by rw [← hmE]; exact Fx.I fy (by decide)
  have hx : Wf12 m4.1 (gR m4) := by rw [← hmE]; exact hx
  have q291 : gI m4 291 sd = nI 0 := by rw [← hmE, gI_s, upd_same]
  have q284 : gI m4 284 sd = nI 0 := by rw [← hmE, gI_n (by decide)]; exact q284
  have q285 : gI m4 285 sd = nI 0 := by rw [← hmE, gI_n (by decide)]; exact q285
  have q288 : gI m4 288 sd = nI 0 := by rw [← hmE, gI_n (by decide)]; exact q288
  clear hmE
  refine go_aload_n (q := 0) (i := 0) rfl rfl dX12_plain_28 ?_
  refine go_getR lf12_82 rfl hx.o hx.r35 dX12_plain_29 ?_
  refine go_iload_n (q := 1) (i := 1) rfl rfl dX12_plain_32 ?_
  refine go_iconst (v := nI 0) (by decide) dX12_plain_33 ?_
  refine go_iast (j := sd) hx.i35 (by omega) (by first | decide | omega) rfl dX12_plain_34 ?_
  generalize hmE : sI m4 296 (upd (gI m4 296) sd (nI 0)) = m5
  have fs : FS sd m m5 := by rw [← hmE]; exact fs.up (SD.at rfl)
  have fy : FYq m m5 := by rw [← hmE]; exact Fx.I fy (by decide)
  have hx : Wf12 m5.1 (gR m5) := by rw [← hmE]; exact hx
  have q296 : gI m5 296 sd = nI 0 := by rw [← hmE, gI_s, upd_same]
  have q284 : gI m5 284 sd = nI 0 := by rw [← hmE, gI_n (by decide)]; exact q284
  have q285 : gI m5 285 sd = nI 0 := by rw [← hmE, gI_n (by decide)]; exact q285
  have q288 : gI m5 288 sd = nI 0 := by rw [← hmE, gI_n (by decide)]; exact q288
  have q291 : gI m5 291 sd = nI 0 := by rw [← hmE, gI_n (by decide)]; exact q291
  clear hmE
  refine go_aload_n (q := 0) (i := 0) rfl rfl dX12_plain_35 ?_
  refine go_getR lf12_94 rfl hx.o hx.r39 dX12_plain_36 ?_
  refine go_iload_n (q := 1) (i := 1) rfl rfl dX12_plain_39 ?_
  refine go_iconst (v := nI 0) (by decide) dX12_plain_40 ?_
  refine go_iast (j := sd) hx.i39 (by omega) (by first | decide | omega) rfl dX12_plain_41 ?_
  generalize hmE : sI m5 300 (upd (gI m5 300) sd (nI 0)) = m6
  have fs : FS sd m m6 := by rw [← hmE]; exact fs.up (SD.at rfl)
  have fy : FYq m m6 := by rw [← hmE]; exact Fx.I fy (by decide)
  have hx : Wf12 m6.1 (gR m6) := by rw [← hmE]; exact hx
  have q300 : gI m6 300 sd = nI 0 := by rw [← hmE, gI_s, upd_same]
  have q284 : gI m6 284 sd = nI 0 := by rw [← hmE, gI_n (by decide)]; exact q284
  have q285 : gI m6 285 sd = nI 0 := by rw [← hmE, gI_n (by decide)]; exact q285
  have q288 : gI m6 288 sd = nI 0 := by rw [← hmE, gI_n (by decide)]; exact q288
  have q291 : gI m6 291 sd = nI 0 := by rw [← hmE, gI_n (by decide)]; exact q291
  have q296 : gI m6 296 sd = nI 0 := by rw [← hmE, gI_n (by decide)]; exact q296
  clear hmE
  refine go_aload_n (q := 0) (i := 0) rfl rfl dX12_plain_42 ?_
  refine go_getR lf12_97 rfl hx.o hx.r40 dX12_plain_43 ?_
  refine go_iload_n (q := 1) (i := 1) rfl rfl dX12_plain_46 ?_
  refine go_iconst (v := nI 3) (by decide) dX12_plain_47 ?_
  refine go_iast (j := sd) hx.i40 (by omega) (by first | decide | omega) rfl dX12_plain_48 ?_
  generalize hmE : sI m6 301 (upd (gI m6 301) sd (nI 3)) = m7
  have fs : FS sd m m7 := by rw [← hmE]; exact fs.up (SD.at rfl)
  have fy : FYq m m7 := by rw [← hmE]; exact Fx.I fy (by decide)
  have hx : Wf12 m7.1 (gR m7) := by rw [← hmE]; exact hx
  have q301 : gI m7 301 sd = nI 3 := by rw [← hmE, gI_s, upd_same]
  have q284 : gI m7 284 sd = nI 0 := by rw [← hmE, gI_n (by decide)]; exact q284
  have q285 : gI m7 285 sd = nI 0 := by rw [← hmE, gI_n (by decide)]; exact q285
  have q288 : gI m7 288 sd = nI 0 := by rw [← hmE, gI_n (by decide)]; exact q288
  have q291 : gI m7 291 sd = nI 0 := by rw [← hmE, gI_n (by decide)]; exact q291
  have q296 : gI m7 296 sd = nI 0 := by rw [← hmE, gI_n (by decide)]; exact q296
  have q300 : gI m7 300 sd = nI 0 := by rw [← hmE, gI_n (by decide)]; exact q300
  clear hmE
  refine go_aload_n (q := 0) (i := 0) rfl rfl dX12_plain_49 ?_
  refine go_getR lf12_100 rfl hx.o hx.r41 dX12_plain_50 ?_
  refine go_iload_n (q := 1) (i := 1) rfl rfl dX12_plain_53 ?_
  refine go_iconst (v := nI 0) (by decide) dX12_plain_54 ?_
  refine go_iast (j := sd) hx.i41 (by omega) (by first | decide | omega) rfl dX12_plain_55 ?_
  generalize hmE : sI m7 302 (upd (gI m7 302) sd (nI 0)) = m8
  have fs : FS sd m m8 := by rw [← hmE]; exact fs.up (SD.at rfl)
  have fy : FYq m m8 := by rw [← hmE]; exact Fx.I fy (by decide)
  have hx : Wf12 m8.1 (gR m8) := by rw [← hmE]; exact hx
  have q302 : gI m8 302 sd = nI 0 := by rw [← hmE, gI_s, upd_same]
  have q284 : gI m8 284 sd = nI 0 := by rw [← hmE, gI_n (by decide)]; exact q284
  have q285 : gI m8 285 sd = nI 0 := by rw [← hmE, gI_n (by decide)]; exact q285
  have q288 : gI m8 288 sd = nI 0 := by rw [← hmE, gI_n (by decide)]; exact q288
  have q291 : gI m8 291 sd = nI 0 := by rw [← hmE, gI_n (by decide)]; exact q291
  have q296 : gI m8 296 sd = nI 0 := by rw [← hmE, gI_n (by decide)]; exact q296
  have q300 : gI m8 300 sd = nI 0 := by rw [← hmE, gI_n (by decide)]; exact q300
  have q301 : gI m8 301 sd = nI 3 := by rw [← hmE, gI_n (by decide)]; exact q301
  clear hmE
  refine go_iconst (v := nI 0) (by decide) dX12_plain_56 ?_
  refine go_istore_n (q := 2) (i := 2) rfl dX12_plain_57 (nle rfl) (nle rfl) ?_
  exact key 0 (Nat.zero_le _) m8 ⟨⟨q284, q285, q288, q291, q296⟩, q300, q301, q302⟩ (fun k hk => absurd hk (Nat.not_lt_zero k)) fy fs
set_option maxRecDepth 100000 in
set_option maxHeartbeats 32000000 in
/-- the reference is made -/
theorem ev_i12 {I : Nat → Nat → Int32} {J : Nat → Nat → Int64} {R : Nat → Nat → Option Nat} (hz : Zr 275 I J R) (hI : I 274 = fun _ => 0) : Ev mX12_init [.ref 274] (275, I, J, va_up R 274 (fun _ => none)) (fun o m' => o = none ∧ MkR (275, I, J, va_up R 274 (fun _ => none)) m') := by
  refine ⟨plmX12_init, nle rfl, ?_⟩
  refine go_aload_n (q := 0) (i := 0) rfl rfl dX12_init_0 ?_
  refine go_obj (wg5 193 rfl rfl) okObj ⟨nle rfl, nle rfl⟩ dX12_init_1 ?_
  refine go_aload_n (q := 0) (i := 0) rfl rfl dX12_init_4 ?_
  refine go_sipush (v := nI 2000) (by decide) dX12_init_5 ?_
  refine go_nwaB (N := 2000) (Zr.up (hz.le (by omega)) (by omega)) (by decide +kernel) (by decide) ⟨nle rfl, nle rfl⟩ dX12_init_8 ?_
  refine go_putE lf12_13 rfl fo12_13 (by decide +kernel) (by omega) dX12_init_10 ?_
  refine go_aload_n (q := 0) (i := 0) rfl rfl dX12_init_13 ?_
  refine go_sipush (v := nI 2000) (by decide) dX12_init_14 ?_
  refine go_nwaB (N := 2000) (Zr.up (hz.le (by omega)) (by omega)) (by decide +kernel) (by decide) ⟨nle rfl, nle rfl⟩ dX12_init_17 ?_
  refine go_putE lf12_17 rfl fo12_17 (by decide +kernel) (by omega) dX12_init_19 ?_
  refine go_aload_n (q := 0) (i := 0) rfl rfl dX12_init_22 ?_
  refine go_sipush (v := nI 403) (by decide) dX12_init_23 ?_
  refine go_nwaI (N := 403) (Zr.up (hz.le (by omega)) (by omega)) (by decide +kernel) (by decide) ⟨nle rfl, nle rfl⟩ dX12_init_26 ?_
  refine go_putE lf12_20 rfl fo12_20 (by decide +kernel) (by omega) dX12_init_28 ?_
  refine go_aload_n (q := 0) (i := 0) rfl rfl dX12_init_31 ?_
  refine go_sipush (v := nI 403) (by decide) dX12_init_32 ?_
  refine go_nwaI (N := 403) (Zr.up (hz.le (by omega)) (by omega)) (by decide +kernel) (by decide) ⟨nle rfl, nle rfl⟩ dX12_init_35 ?_
  refine go_putE lf12_24 rfl fo12_24 (by decide +kernel) (by omega) dX12_init_37 ?_
  refine go_aload_n (q := 0) (i := 0) rfl rfl dX12_init_40 ?_
  refine go_sipush (v := nI 403) (by decide) dX12_init_41 ?_
  refine go_nwaI (N := 403) (Zr.up (hz.le (by omega)) (by omega)) (by decide +kernel) (by decide) ⟨nle rfl, nle rfl⟩ dX12_init_44 ?_
  refine go_putE lf12_27 rfl fo12_27 (by decide +kernel) (by omega) dX12_init_46 ?_
  refine go_aload_n (q := 0) (i := 0) rfl rfl dX12_init_49 ?_
  refine go_sipush (v := nI 403) (by decide) dX12_init_50 ?_
  refine go_nwaJ (N := 403) (Zr.up (hz.le (by omega)) (by omega)) (by decide +kernel) (by decide) ⟨nle rfl, nle rfl⟩ dX12_init_53 ?_
  refine go_putE lf12_30 rfl fo12_30 (by decide +kernel) (by omega) dX12_init_55 ?_
  refine go_aload_n (q := 0) (i := 0) rfl rfl dX12_init_58 ?_
  refine go_bipush (v := nI 23) (by decide) dX12_init_59 ?_
  refine go_nwaJ (N := 23) (Zr.up (hz.le (by omega)) (by omega)) (by decide +kernel) (by decide) ⟨nle rfl, nle rfl⟩ dX12_init_61 ?_
  refine go_putE lf12_34 rfl fo12_34 (by decide +kernel) (by omega) dX12_init_63 ?_
  refine go_aload_n (q := 0) (i := 0) rfl rfl dX12_init_66 ?_
  refine go_iconst (v := -1) (by decide) dX12_init_67 ?_
  refine go_putIE lf12_37 rfl (Or.inl rfl) (by decide +kernel) (by omega) dX12_init_68 (fun I1 hI1 => ?_)
  have hz : Zr 275 I1 J R := fun x hx => ⟨by rw [hI1, up_n (by omega)]; exact (hz x hx).1, (hz x hx).2⟩
  refine go_aload_n (q := 0) (i := 0) rfl rfl dX12_init_71 ?_
  refine go_bipush (v := nI 10) (by decide) dX12_init_72 ?_
  refine go_nwaJ (N := 10) (Zr.up (hz.le (by omega)) (by omega)) (by decide +kernel) (by decide) ⟨nle rfl, nle rfl⟩ dX12_init_74 ?_
  refine go_putE lf12_40 rfl fo12_40 (by decide +kernel) (by omega) dX12_init_76 ?_
  refine go_aload_n (q := 0) (i := 0) rfl rfl dX12_init_79 ?_
  refine go_bipush (v := nI 10) (by decide) dX12_init_80 ?_
  refine go_nwaI (N := 10) (Zr.up (hz.le (by omega)) (by omega)) (by decide +kernel) (by decide) ⟨nle rfl, nle rfl⟩ dX12_init_82 ?_
  refine go_putE lf12_43 rfl fo12_43 (by decide +kernel) (by omega) dX12_init_84 ?_
  refine go_aload_n (q := 0) (i := 0) rfl rfl dX12_init_87 ?_
  refine go_iconst (v := nI 2) (by decide) dX12_init_88 ?_
  refine go_nwaI (N := 2) (Zr.up (hz.le (by omega)) (by omega)) (by decide +kernel) (by decide) ⟨nle rfl, nle rfl⟩ dX12_init_89 ?_
  refine go_putE lf12_46 rfl fo12_46 (by decide +kernel) (by omega) dX12_init_91 ?_
  refine go_aload_n (q := 0) (i := 0) rfl rfl dX12_init_94 ?_
  refine go_iconst (v := nI 2) (by decide) dX12_init_95 ?_
  refine go_nwaI (N := 2) (Zr.up (hz.le (by omega)) (by omega)) (by decide +kernel) (by decide) ⟨nle rfl, nle rfl⟩ dX12_init_96 ?_
  refine go_putE lf12_49 rfl fo12_49 (by decide +kernel) (by omega) dX12_init_98 ?_
  refine go_aload_n (q := 0) (i := 0) rfl rfl dX12_init_101 ?_
  refine go_bipush (v := nI 80) (by decide) dX12_init_102 ?_
  refine go_nwaI (N := 80) (Zr.up (hz.le (by omega)) (by omega)) (by decide +kernel) (by decide) ⟨nle rfl, nle rfl⟩ dX12_init_104 ?_
  refine go_putE lf12_52 rfl fo12_52 (by decide +kernel) (by omega) dX12_init_106 ?_
  refine go_aload_n (q := 0) (i := 0) rfl rfl dX12_init_109 ?_
  refine go_bipush (v := nI 80) (by decide) dX12_init_110 ?_
  refine go_nwaI (N := 80) (Zr.up (hz.le (by omega)) (by omega)) (by decide +kernel) (by decide) ⟨nle rfl, nle rfl⟩ dX12_init_112 ?_
  refine go_putE lf12_55 rfl fo12_55 (by decide +kernel) (by omega) dX12_init_114 ?_
  refine go_aload_n (q := 0) (i := 0) rfl rfl dX12_init_117 ?_
  refine go_iconst (v := nI 2) (by decide) dX12_init_118 ?_
  refine go_nwaI (N := 2) (Zr.up (hz.le (by omega)) (by omega)) (by decide +kernel) (by decide) ⟨nle rfl, nle rfl⟩ dX12_init_119 ?_
  refine go_putE lf12_58 rfl fo12_58 (by decide +kernel) (by omega) dX12_init_121 ?_
  refine go_aload_n (q := 0) (i := 0) rfl rfl dX12_init_124 ?_
  refine go_bipush (v := nI 8) (by decide) dX12_init_125 ?_
  refine go_nwaI (N := 8) (Zr.up (hz.le (by omega)) (by omega)) (by decide +kernel) (by decide) ⟨nle rfl, nle rfl⟩ dX12_init_127 ?_
  refine go_putE lf12_61 rfl fo12_61 (by decide +kernel) (by omega) dX12_init_129 ?_
  refine go_aload_n (q := 0) (i := 0) rfl rfl dX12_init_132 ?_
  refine go_bipush (v := nI 8) (by decide) dX12_init_133 ?_
  refine go_nwaI (N := 8) (Zr.up (hz.le (by omega)) (by omega)) (by decide +kernel) (by decide) ⟨nle rfl, nle rfl⟩ dX12_init_135 ?_
  refine go_putE lf12_64 rfl fo12_64 (by decide +kernel) (by omega) dX12_init_137 ?_
  refine go_aload_n (q := 0) (i := 0) rfl rfl dX12_init_140 ?_
  refine go_iconst (v := nI 2) (by decide) dX12_init_141 ?_
  refine go_nwaI (N := 2) (Zr.up (hz.le (by omega)) (by omega)) (by decide +kernel) (by decide) ⟨nle rfl, nle rfl⟩ dX12_init_142 ?_
  refine go_putE lf12_67 rfl fo12_67 (by decide +kernel) (by omega) dX12_init_144 ?_
  refine go_aload_n (q := 0) (i := 0) rfl rfl dX12_init_147 ?_
  refine go_bipush (v := nI 12) (by decide) dX12_init_148 ?_
  refine go_nwaI (N := 12) (Zr.up (hz.le (by omega)) (by omega)) (by decide +kernel) (by decide) ⟨nle rfl, nle rfl⟩ dX12_init_150 ?_
  refine go_putE lf12_70 rfl fo12_70 (by decide +kernel) (by omega) dX12_init_152 ?_
  refine go_aload_n (q := 0) (i := 0) rfl rfl dX12_init_155 ?_
  refine go_bipush (v := nI 12) (by decide) dX12_init_156 ?_
  refine go_nwaI (N := 12) (Zr.up (hz.le (by omega)) (by omega)) (by decide +kernel) (by decide) ⟨nle rfl, nle rfl⟩ dX12_init_158 ?_
  refine go_putE lf12_73 rfl fo12_73 (by decide +kernel) (by omega) dX12_init_160 ?_
  refine go_aload_n (q := 0) (i := 0) rfl rfl dX12_init_163 ?_
  refine go_bipush (v := nI 12) (by decide) dX12_init_164 ?_
  refine go_nwaI (N := 12) (Zr.up (hz.le (by omega)) (by omega)) (by decide +kernel) (by decide) ⟨nle rfl, nle rfl⟩ dX12_init_166 ?_
  refine go_putE lf12_76 rfl fo12_76 (by decide +kernel) (by omega) dX12_init_168 ?_
  refine go_aload_n (q := 0) (i := 0) rfl rfl dX12_init_171 ?_
  refine go_bipush (v := nI 12) (by decide) dX12_init_172 ?_
  refine go_nwaI (N := 12) (Zr.up (hz.le (by omega)) (by omega)) (by decide +kernel) (by decide) ⟨nle rfl, nle rfl⟩ dX12_init_174 ?_
  refine go_putE lf12_79 rfl fo12_79 (by decide +kernel) (by omega) dX12_init_176 ?_
  refine go_aload_n (q := 0) (i := 0) rfl rfl dX12_init_179 ?_
  refine go_iconst (v := nI 2) (by decide) dX12_init_180 ?_
  refine go_nwaI (N := 2) (Zr.up (hz.le (by omega)) (by omega)) (by decide +kernel) (by decide) ⟨nle rfl, nle rfl⟩ dX12_init_181 ?_
  refine go_putE lf12_82 rfl fo12_82 (by decide +kernel) (by omega) dX12_init_183 ?_
  refine go_aload_n (q := 0) (i := 0) rfl rfl dX12_init_186 ?_
  refine go_bipush (v := nI 24) (by decide) dX12_init_187 ?_
  refine go_nwaI (N := 24) (Zr.up (hz.le (by omega)) (by omega)) (by decide +kernel) (by decide) ⟨nle rfl, nle rfl⟩ dX12_init_189 ?_
  refine go_putE lf12_85 rfl fo12_85 (by decide +kernel) (by omega) dX12_init_191 ?_
  refine go_aload_n (q := 0) (i := 0) rfl rfl dX12_init_194 ?_
  refine go_bipush (v := nI 24) (by decide) dX12_init_195 ?_
  refine go_nwaI (N := 24) (Zr.up (hz.le (by omega)) (by omega)) (by decide +kernel) (by decide) ⟨nle rfl, nle rfl⟩ dX12_init_197 ?_
  refine go_putE lf12_88 rfl fo12_88 (by decide +kernel) (by omega) dX12_init_199 ?_
  refine go_aload_n (q := 0) (i := 0) rfl rfl dX12_init_202 ?_
  refine go_bipush (v := nI 24) (by decide) dX12_init_203 ?_
  refine go_nwaI (N := 24) (Zr.up (hz.le (by omega)) (by omega)) (by decide +kernel) (by decide) ⟨nle rfl, nle rfl⟩ dX12_init_205 ?_
  refine go_putE lf12_91 rfl fo12_91 (by decide +kernel) (by omega) dX12_init_207 ?_
  refine go_aload_n (q := 0) (i := 0) rfl rfl dX12_init_210 ?_
  refine go_iconst (v := nI 2) (by decide) dX12_init_211 ?_
  refine go_nwaI (N := 2) (Zr.up (hz.le (by omega)) (by omega)) (by decide +kernel) (by decide) ⟨nle rfl, nle rfl⟩ dX12_init_212 ?_
  refine go_putE lf12_94 rfl fo12_94 (by decide +kernel) (by omega) dX12_init_214 ?_
  refine go_aload_n (q := 0) (i := 0) rfl rfl dX12_init_217 ?_
  refine go_iconst (v := nI 2) (by decide) dX12_init_218 ?_
  refine go_nwaI (N := 2) (Zr.up (hz.le (by omega)) (by omega)) (by decide +kernel) (by decide) ⟨nle rfl, nle rfl⟩ dX12_init_219 ?_
  refine go_putE lf12_97 rfl fo12_97 (by decide +kernel) (by omega) dX12_init_221 ?_
  refine go_aload_n (q := 0) (i := 0) rfl rfl dX12_init_224 ?_
  refine go_iconst (v := nI 2) (by decide) dX12_init_225 ?_
  refine go_nwaI (N := 2) (Zr.up (hz.le (by omega)) (by omega)) (by decide +kernel) (by decide) ⟨nle rfl, nle rfl⟩ dX12_init_226 ?_
  refine go_putE lf12_100 rfl fo12_100 (by decide +kernel) (by omega) dX12_init_228 ?_
  refine go_aload_n (q := 0) (i := 0) rfl rfl dX12_init_231 ?_
  refine go_bipush (v := nI 8) (by decide) dX12_init_232 ?_
  refine go_nwaI (N := 8) (Zr.up (hz.le (by omega)) (by omega)) (by decide +kernel) (by decide) ⟨nle rfl, nle rfl⟩ dX12_init_234 ?_
  refine go_putE lf12_103 rfl fo12_103 (by decide +kernel) (by omega) dX12_init_236 ?_
  refine go_aload_n (q := 0) (i := 0) rfl rfl dX12_init_239 ?_
  refine go_bipush (v := nI 8) (by decide) dX12_init_240 ?_
  refine go_nwaI (N := 8) (Zr.up (hz.le (by omega)) (by omega)) (by decide +kernel) (by decide) ⟨nle rfl, nle rfl⟩ dX12_init_242 ?_
  refine go_putE lf12_106 rfl fo12_106 (by decide +kernel) (by omega) dX12_init_244 ?_
  refine go_aload_n (q := 0) (i := 0) rfl rfl dX12_init_247 ?_
  refine go_sipush (v := nI 260) (by decide) dX12_init_248 ?_
  refine go_nwaZ (N := 260) (Zr.up (hz.le (by omega)) (by omega)) (by decide +kernel) (by decide) ⟨nle rfl, nle rfl⟩ dX12_init_251 ?_
  refine go_putE lf12_109 rfl fo12_109 (by decide +kernel) (by omega) dX12_init_253 ?_
  refine go_aload_n (q := 0) (i := 0) rfl rfl dX12_init_256 ?_
  refine go_sipush (v := nI 260) (by decide) dX12_init_257 ?_
  refine go_nwaI (N := 260) (Zr.up (hz.le (by omega)) (by omega)) (by decide +kernel) (by decide) ⟨nle rfl, nle rfl⟩ dX12_init_260 ?_
  refine go_putE lf12_113 rfl fo12_113 (by decide +kernel) (by omega) dX12_init_262 ?_
  refine go_aload_n (q := 0) (i := 0) rfl rfl dX12_init_265 ?_
  refine go_sipush (v := nI 260) (by decide) dX12_init_266 ?_
  refine go_nwaI (N := 260) (Zr.up (hz.le (by omega)) (by omega)) (by decide +kernel) (by decide) ⟨nle rfl, nle rfl⟩ dX12_init_269 ?_
  refine go_putE lf12_116 rfl fo12_116 (by decide +kernel) (by omega) dX12_init_271 ?_
  refine go_aload_n (q := 0) (i := 0) rfl rfl dX12_init_274 ?_
  refine go_sipush (v := nI 260) (by decide) dX12_init_275 ?_
  refine go_nwaI (N := 260) (Zr.up (hz.le (by omega)) (by omega)) (by decide +kernel) (by decide) ⟨nle rfl, nle rfl⟩ dX12_init_278 ?_
  refine go_putE lf12_119 rfl fo12_119 (by decide +kernel) (by omega) dX12_init_280 ?_
  refine go_aload_n (q := 0) (i := 0) rfl rfl dX12_init_283 ?_
  refine go_sipush (v := nI 260) (by decide) dX12_init_284 ?_
  refine go_nwaI (N := 260) (Zr.up (hz.le (by omega)) (by omega)) (by decide +kernel) (by decide) ⟨nle rfl, nle rfl⟩ dX12_init_287 ?_
  refine go_putE lf12_122 rfl fo12_122 (by decide +kernel) (by omega) dX12_init_289 ?_
  refine go_aload_n (q := 0) (i := 0) rfl rfl dX12_init_292 ?_
  refine go_sipush (v := nI 840) (by decide) dX12_init_293 ?_
  refine go_nwaI (N := 840) (Zr.up (hz.le (by omega)) (by omega)) (by decide +kernel) (by decide) ⟨nle rfl, nle rfl⟩ dX12_init_296 ?_
  refine go_putE lf12_125 rfl fo12_125 (by decide +kernel) (by omega) dX12_init_298 ?_
  refine go_aload_n (q := 0) (i := 0) rfl rfl dX12_init_301 ?_
  refine go_sipush (v := nI 840) (by decide) dX12_init_302 ?_
  refine go_nwaI (N := 840) (Zr.up (hz.le (by omega)) (by omega)) (by decide +kernel) (by decide) ⟨nle rfl, nle rfl⟩ dX12_init_305 ?_
  refine go_putE lf12_128 rfl fo12_128 (by decide +kernel) (by omega) dX12_init_307 ?_
  refine go_aload_n (q := 0) (i := 0) rfl rfl dX12_init_310 ?_
  refine go_bipush (v := nI 64) (by decide) dX12_init_311 ?_
  refine go_nwaI (N := 64) (Zr.up (hz.le (by omega)) (by omega)) (by decide +kernel) (by decide) ⟨nle rfl, nle rfl⟩ dX12_init_313 ?_
  refine go_putE lf12_131 rfl fo12_131 (by decide +kernel) (by omega) dX12_init_315 ?_
  refine go_aload_n (q := 0) (i := 0) rfl rfl dX12_init_318 ?_
  refine go_bipush (v := nI 9) (by decide) dX12_init_319 ?_
  refine go_nwaI (N := 9) (Zr.up (hz.le (by omega)) (by omega)) (by decide +kernel) (by decide) ⟨nle rfl, nle rfl⟩ dX12_init_321 ?_
  refine go_putE lf12_134 rfl fo12_134 (by decide +kernel) (by omega) dX12_init_323 ?_
  refine go_aload_n (q := 0) (i := 0) rfl rfl dX12_init_326 ?_
  refine go_sipush (v := nI 400) (by decide) dX12_init_327 ?_
  refine go_nwaI (N := 400) (Zr.up (hz.le (by omega)) (by omega)) (by decide +kernel) (by decide) ⟨nle rfl, nle rfl⟩ dX12_init_330 ?_
  refine go_putE lf12_137 rfl fo12_137 (by decide +kernel) (by omega) dX12_init_332 ?_
  refine go_aload_n (q := 0) (i := 0) rfl rfl dX12_init_335 ?_
  refine go_bipush (v := nI 105) (by decide) dX12_init_336 ?_
  refine go_nwaI (N := 105) (Zr.up (hz.le (by omega)) (by omega)) (by decide +kernel) (by decide) ⟨nle rfl, nle rfl⟩ dX12_init_338 ?_
  refine go_putE lf12_140 rfl fo12_140 (by decide +kernel) (by omega) dX12_init_340 ?_
  refine go_aload_n (q := 0) (i := 0) rfl rfl dX12_init_343 ?_
  refine go_bipush (v := nI 105) (by decide) dX12_init_344 ?_
  refine go_nwaI (N := 105) (Zr.up (hz.le (by omega)) (by omega)) (by decide +kernel) (by decide) ⟨nle rfl, nle rfl⟩ dX12_init_346 ?_
  refine go_putE lf12_143 rfl fo12_143 (by decide +kernel) (by omega) dX12_init_348 ?_
  refine go_aload_n (q := 0) (i := 0) rfl rfl dX12_init_351 ?_
  refine go_bipush (v := nI 40) (by decide) dX12_init_352 ?_
  refine go_nwaI (N := 40) (Zr.up (hz.le (by omega)) (by omega)) (by decide +kernel) (by decide) ⟨nle rfl, nle rfl⟩ dX12_init_354 ?_
  refine go_putE lf12_146 rfl fo12_146 (by decide +kernel) (by omega) dX12_init_356 ?_
  refine go_aload_n (q := 0) (i := 0) rfl rfl dX12_init_359 ?_
  refine go_sipush (v := nI 3150) (by decide) dX12_init_360 ?_
  refine go_nwaI (N := 3150) (Zr.up (hz.le (by omega)) (by omega)) (by decide +kernel) (by decide) ⟨nle rfl, nle rfl⟩ dX12_init_363 ?_
  refine go_putE lf12_149 rfl fo12_149 (by decide +kernel) (by omega) dX12_init_365 ?_
  refine go_aload_n (q := 0) (i := 0) rfl rfl dX12_init_368 ?_
  refine go_bipush (v := nI 40) (by decide) dX12_init_369 ?_
  refine go_nwaZ (N := 40) (Zr.up (hz.le (by omega)) (by omega)) (by decide +kernel) (by decide) ⟨nle rfl, nle rfl⟩ dX12_init_371 ?_
  refine go_putE lf12_152 rfl fo12_152 (by decide +kernel) (by omega) dX12_init_373 ?_
  refine go_aload_n (q := 0) (i := 0) rfl rfl dX12_init_376 ?_
  refine go_bipush (v := nI 40) (by decide) dX12_init_377 ?_
  refine go_nwaZ (N := 40) (Zr.up (hz.le (by omega)) (by omega)) (by decide +kernel) (by decide) ⟨nle rfl, nle rfl⟩ dX12_init_379 ?_
  refine go_putE lf12_155 rfl fo12_155 (by decide +kernel) (by omega) dX12_init_381 ?_
  refine go_aload_n (q := 0) (i := 0) rfl rfl dX12_init_384 ?_
  refine go_iconst (v := nI 3) (by decide) dX12_init_385 ?_
  refine go_nwaI (N := 3) (Zr.up (hz.le (by omega)) (by omega)) (by decide +kernel) (by decide) ⟨nle rfl, nle rfl⟩ dX12_init_386 ?_
  refine go_putE lf12_158 rfl fo12_158 (by decide +kernel) (by omega) dX12_init_388 ?_
  refine go_aload_n (q := 0) (i := 0) rfl rfl dX12_init_391 ?_
  refine go_bipush (v := nI 20) (by decide) dX12_init_392 ?_
  refine go_nwaI (N := 20) (Zr.up (hz.le (by omega)) (by omega)) (by decide +kernel) (by decide) ⟨nle rfl, nle rfl⟩ dX12_init_394 ?_
  refine go_putE lf12_161 rfl fo12_161 (by decide +kernel) (by omega) dX12_init_396 ?_
  refine go_aload_n (q := 0) (i := 0) rfl rfl dX12_init_399 ?_
  refine go_bipush (v := nI 20) (by decide) dX12_init_400 ?_
  refine go_nwaI (N := 20) (Zr.up (hz.le (by omega)) (by omega)) (by decide +kernel) (by decide) ⟨nle rfl, nle rfl⟩ dX12_init_402 ?_
  refine go_putE lf12_164 rfl fo12_164 (by decide +kernel) (by omega) dX12_init_404 ?_
  refine go_aload_n (q := 0) (i := 0) rfl rfl dX12_init_407 ?_
  refine go_bipush (v := nI 20) (by decide) dX12_init_408 ?_
  refine go_nwaI (N := 20) (Zr.up (hz.le (by omega)) (by omega)) (by decide +kernel) (by decide) ⟨nle rfl, nle rfl⟩ dX12_init_410 ?_
  refine go_putE lf12_167 rfl fo12_167 (by decide +kernel) (by omega) dX12_init_412 ?_
  refine go_aload_n (q := 0) (i := 0) rfl rfl dX12_init_415 ?_
  refine go_sipush (v := nI 4000) (by decide) dX12_init_416 ?_
  refine go_nwaI (N := 4000) (Zr.up (hz.le (by omega)) (by omega)) (by decide +kernel) (by decide) ⟨nle rfl, nle rfl⟩ dX12_init_419 ?_
  refine go_putE lf12_170 rfl fo12_170 (by decide +kernel) (by omega) dX12_init_421 ?_
  refine go_aload_n (q := 0) (i := 0) rfl rfl dX12_init_424 ?_
  refine go_iconst (v := nI 3) (by decide) dX12_init_425 ?_
  refine go_nwaZ (N := 3) (Zr.up (hz.le (by omega)) (by omega)) (by decide +kernel) (by decide) ⟨nle rfl, nle rfl⟩ dX12_init_426 ?_
  refine go_putE lf12_173 rfl fo12_173 (by decide +kernel) (by omega) dX12_init_428 ?_
  refine go_aload_n (q := 0) (i := 0) rfl rfl dX12_init_431 ?_
  refine go_sipush (v := nI 315) (by decide) dX12_init_432 ?_
  refine go_nwaI (N := 315) (Zr.up (hz.le (by omega)) (by omega)) (by decide +kernel) (by decide) ⟨nle rfl, nle rfl⟩ dX12_init_435 ?_
  refine go_putE lf12_176 rfl fo12_176 (by decide +kernel) (by omega) dX12_init_437 ?_
  have hx : Wf12 328 (va_up R 274 TR12) := wf12_of (Nat.le_refl _) up_s
  have hIx : ∀ x, x ≠ 274 → I1 x = I x := fun x h => by rw [hI1, up_n h]
  have hI4 : ∀ k, k ≠ 17 → I1 274 k = nI 0 := fun k h => by rw [hI1, up_s, upd_ne h, hI]; rfl
  have hI17 : I1 274 17 = -1 := by rw [hI1, up_s, upd_same]
  have hIz : ∀ x, 275 ≤ x → I1 x = fun _ => 0 := fun x h => (hz x h).1
  refine go_aload_n (q := 0) (i := 0) rfl rfl dX12_init_440 ?_
  refine go_iconst (v := nI 0) (by decide) dX12_init_441 ?_
  refine go_callV okmX12_plain lmX12_179 ⟨nle rfl, nle rfl⟩ hx.o ⟨by decide, rfl⟩ (ex_plainq hx (by decide)) npmX12_plain rfl (nle rfl) ⟨nle rfl, nle rfl⟩ dX12_init_442 ?_
  rintro _ m2 ⟨rfl, hr1, hr2, hfy, -⟩
  have hx : Wf12 m2.1 (gR m2) := by rw [hfy.1, hfy.2.1]; exact hx
  refine go_c0 ?_
  have hk : ∀ k, k < 0 → gJ m2 281 k = kwM k := fun k h => absurd h (Nat.not_lt_zero k)
  have hf : KwF m2 m2 := ⟨rfl, rfl, rfl, fun _ _ => rfl⟩
  refine go_aload_n (q := 0) (i := 0) rfl rfl dX12_init_445 ?_
  refine go_getR lf12_34 rfl hx.o hx.r9 dX12_init_446 ?_
  refine go_iconst (v := nI 0) (by decide) dX12_init_449 ?_
  refine go_bipush (v := nI 114) (by decide) dX12_init_450 ?_
  refine go_bipush (v := nI 111) (by decide) dX12_init_452 ?_
  refine go_bipush (v := nI 119) (by decide) dX12_init_454 ?_
  refine go_iconst (v := nI 0) (by decide) dX12_init_456 ?_
  refine go_iconst (v := nI 0) (by decide) dX12_init_457 ?_
  refine go_iconst (v := nI 0) (by decide) dX12_init_458 ?_
  refine go_iconst (v := nI 0) (by decide) dX12_init_459 ?_
  refine go_callS okmX12_word lmX12_183 ⟨nle rfl, nle rfl⟩ (ex_word) npmX12_word rfl (nle rfl) ⟨nle rfl, nle rfl⟩ dX12_init_460 ?_
  rintro _ mz ⟨rfl, hmz⟩
  subst mz
  refine go_cL ?_
  rw [show (apS (apS (apS (apS (apS (apS (apS 0 (nI 114)) (nI 111)) (nI 119)) (nI 0)) (nI 0)) (nI 0)) (nI 0)) = kwM 0 by decide +kernel]
  refine go_last (j := 0) hx.i9 (by omega) (by decide) rfl dX12_init_463 ?_
  refine go_kw (j := 0) hk hx hf (fun w0 hk hx hf => ?_)
  refine go_aload_n (q := 0) (i := 0) rfl rfl dX12_init_464 ?_
  refine go_getR lf12_34 rfl hx.o hx.r9 dX12_init_465 ?_
  refine go_iconst (v := nI 1) (by decide) dX12_init_468 ?_
  refine go_bipush (v := nI 104) (by decide) dX12_init_469 ?_
  refine go_bipush (v := nI 111) (by decide) dX12_init_471 ?_
  refine go_bipush (v := nI 108) (by decide) dX12_init_473 ?_
  refine go_bipush (v := nI 100) (by decide) dX12_init_475 ?_
  refine go_bipush (v := nI 105) (by decide) dX12_init_477 ?_
  refine go_bipush (v := nI 110) (by decide) dX12_init_479 ?_
  refine go_bipush (v := nI 103) (by decide) dX12_init_481 ?_
  refine go_callS okmX12_word lmX12_183 ⟨nle rfl, nle rfl⟩ (ex_word) npmX12_word rfl (nle rfl) ⟨nle rfl, nle rfl⟩ dX12_init_483 ?_
  rintro _ mz ⟨rfl, hmz⟩
  subst mz
  refine go_cL ?_
  rw [show (apS (apS (apS (apS (apS (apS (apS 0 (nI 104)) (nI 111)) (nI 108)) (nI 100)) (nI 105)) (nI 110)) (nI 103)) = kwM 1 by decide +kernel]
  refine go_last (j := 1) hx.i9 (by omega) (by decide) rfl dX12_init_486 ?_
  refine go_kw (j := 1) hk hx hf (fun w1 hk hx hf => ?_)
  refine go_aload_n (q := 0) (i := 0) rfl rfl dX12_init_487 ?_
  refine go_getR lf12_34 rfl hx.o hx.r9 dX12_init_488 ?_
  refine go_iconst (v := nI 2) (by decide) dX12_init_491 ?_
  refine go_bipush (v := nI 117) (by decide) dX12_init_492 ?_
  refine go_bipush (v := nI 115) (by decide) dX12_init_494 ?_
  refine go_bipush (v := nI 101) (by decide) dX12_init_496 ?_
  refine go_iconst (v := nI 0) (by decide) dX12_init_498 ?_
  refine go_iconst (v := nI 0) (by decide) dX12_init_499 ?_
  refine go_iconst (v := nI 0) (by decide) dX12_init_500 ?_
  refine go_iconst (v := nI 0) (by decide) dX12_init_501 ?_
  refine go_callS okmX12_word lmX12_183 ⟨nle rfl, nle rfl⟩ (ex_word) npmX12_word rfl (nle rfl) ⟨nle rfl, nle rfl⟩ dX12_init_502 ?_
  rintro _ mz ⟨rfl, hmz⟩
  subst mz
  refine go_cL ?_
  rw [show (apS (apS (apS (apS (apS (apS (apS 0 (nI 117)) (nI 115)) (nI 101)) (nI 0)) (nI 0)) (nI 0)) (nI 0)) = kwM 2 by decide +kernel]
  refine go_last (j := 2) hx.i9 (by omega) (by decide) rfl dX12_init_505 ?_
  refine go_kw (j := 2) hk hx hf (fun w2 hk hx hf => ?_)
  refine go_aload_n (q := 0) (i := 0) rfl rfl dX12_init_506 ?_
  refine go_getR lf12_34 rfl hx.o hx.r9 dX12_init_507 ?_
  refine go_iconst (v := nI 3) (by decide) dX12_init_510 ?_
  refine go_bipush (v := nI 98) (by decide) dX12_init_511 ?_
  refine go_bipush (v := nI 97) (by decide) dX12_init_513 ?_
  refine go_bipush (v := nI 110) (by decide) dX12_init_515 ?_
  refine go_bipush (v := nI 107) (by decide) dX12_init_517 ?_
  refine go_iconst (v := nI 0) (by decide) dX12_init_519 ?_
  refine go_iconst (v := nI 0) (by decide) dX12_init_520 ?_
  refine go_iconst (v := nI 0) (by decide) dX12_init_521 ?_
  refine go_callS okmX12_word lmX12_183 ⟨nle rfl, nle rfl⟩ (ex_word) npmX12_word rfl (nle rfl) ⟨nle rfl, nle rfl⟩ dX12_init_522 ?_
  rintro _ mz ⟨rfl, hmz⟩
  subst mz
  refine go_cL ?_
  rw [show (apS (apS (apS (apS (apS (apS (apS 0 (nI 98)) (nI 97)) (nI 110)) (nI 107)) (nI 0)) (nI 0)) (nI 0)) = kwM 3 by decide +kernel]
  refine go_last (j := 3) hx.i9 (by omega) (by decide) rfl dX12_init_525 ?_
  refine go_kw (j := 3) hk hx hf (fun w3 hk hx hf => ?_)
  refine go_aload_n (q := 0) (i := 0) rfl rfl dX12_init_526 ?_
  refine go_getR lf12_34 rfl hx.o hx.r9 dX12_init_527 ?_
  refine go_iconst (v := nI 4) (by decide) dX12_init_530 ?_
  refine go_bipush (v := nI 119) (by decide) dX12_init_531 ?_
  refine go_bipush (v := nI 105) (by decide) dX12_init_533 ?_
  refine go_bipush (v := nI 110) (by decide) dX12_init_535 ?_
  refine go_bipush (v := nI 100) (by decide) dX12_init_537 ?_
  refine go_iconst (v := nI 0) (by decide) dX12_init_539 ?_
  refine go_iconst (v := nI 0) (by decide) dX12_init_540 ?_
  refine go_iconst (v := nI 0) (by decide) dX12_init_541 ?_
  refine go_callS okmX12_word lmX12_183 ⟨nle rfl, nle rfl⟩ (ex_word) npmX12_word rfl (nle rfl) ⟨nle rfl, nle rfl⟩ dX12_init_542 ?_
  rintro _ mz ⟨rfl, hmz⟩
  subst mz
  refine go_cL ?_
  rw [show (apS (apS (apS (apS (apS (apS (apS 0 (nI 119)) (nI 105)) (nI 110)) (nI 100)) (nI 0)) (nI 0)) (nI 0)) = kwM 4 by decide +kernel]
  refine go_last (j := 4) hx.i9 (by omega) (by decide) rfl dX12_init_545 ?_
  refine go_kw (j := 4) hk hx hf (fun w4 hk hx hf => ?_)
  refine go_aload_n (q := 0) (i := 0) rfl rfl dX12_init_546 ?_
  refine go_getR lf12_34 rfl hx.o hx.r9 dX12_init_547 ?_
  refine go_iconst (v := nI 5) (by decide) dX12_init_550 ?_
  refine go_bipush (v := nI 100) (by decide) dX12_init_551 ?_
  refine go_bipush (v := nI 114) (by decide) dX12_init_553 ?_
  refine go_bipush (v := nI 105) (by decide) dX12_init_555 ?_
  refine go_bipush (v := nI 102) (by decide) dX12_init_557 ?_
  refine go_bipush (v := nI 116) (by decide) dX12_init_559 ?_
  refine go_bipush (v := nI 115) (by decide) dX12_init_561 ?_
  refine go_iconst (v := nI 0) (by decide) dX12_init_563 ?_
  refine go_callS okmX12_word lmX12_183 ⟨nle rfl, nle rfl⟩ (ex_word) npmX12_word rfl (nle rfl) ⟨nle rfl, nle rfl⟩ dX12_init_564 ?_
  rintro _ mz ⟨rfl, hmz⟩
  subst mz
  refine go_cL ?_
  rw [show (apS (apS (apS (apS (apS (apS (apS 0 (nI 100)) (nI 114)) (nI 105)) (nI 102)) (nI 116)) (nI 115)) (nI 0)) = kwM 5 by decide +kernel]
  refine go_last (j := 5) hx.i9 (by omega) (by decide) rfl dX12_init_567 ?_
  refine go_kw (j := 5) hk hx hf (fun w5 hk hx hf => ?_)
  refine go_aload_n (q := 0) (i := 0) rfl rfl dX12_init_568 ?_
  refine go_getR lf12_34 rfl hx.o hx.r9 dX12_init_569 ?_
  refine go_bipush (v := nI 6) (by decide) dX12_init_572 ?_
  refine go_bipush (v := nI 116) (by decide) dX12_init_574 ?_
  refine go_bipush (v := nI 104) (by decide) dX12_init_576 ?_
  refine go_bipush (v := nI 105) (by decide) dX12_init_578 ?_
  refine go_bipush (v := nI 110) (by decide) dX12_init_580 ?_
  refine go_bipush (v := nI 115) (by decide) dX12_init_582 ?_
  refine go_iconst (v := nI 0) (by decide) dX12_init_584 ?_
  refine go_iconst (v := nI 0) (by decide) dX12_init_585 ?_
  refine go_callS okmX12_word lmX12_183 ⟨nle rfl, nle rfl⟩ (ex_word) npmX12_word rfl (nle rfl) ⟨nle rfl, nle rfl⟩ dX12_init_586 ?_
  rintro _ mz ⟨rfl, hmz⟩
  subst mz
  refine go_cL ?_
  rw [show (apS (apS (apS (apS (apS (apS (apS 0 (nI 116)) (nI 104)) (nI 105)) (nI 110)) (nI 115)) (nI 0)) (nI 0)) = kwM 6 by decide +kernel]
  refine go_last (j := 6) hx.i9 (by omega) (by decide) rfl dX12_init_589 ?_
  refine go_kw (j := 6) hk hx hf (fun w6 hk hx hf => ?_)
  refine go_aload_n (q := 0) (i := 0) rfl rfl dX12_init_590 ?_
  refine go_getR lf12_34 rfl hx.o hx.r9 dX12_init_591 ?_
  refine go_bipush (v := nI 7) (by decide) dX12_init_594 ?_
  refine go_bipush (v := nI 103) (by decide) dX12_init_596 ?_
  refine go_bipush (v := nI 105) (by decide) dX12_init_598 ?_
  refine go_bipush (v := nI 118) (by decide) dX12_init_600 ?_
  refine go_bipush (v := nI 101) (by decide) dX12_init_602 ?_
  refine go_bipush (v := nI 115) (by decide) dX12_init_604 ?_
  refine go_iconst (v := nI 0) (by decide) dX12_init_606 ?_
  refine go_iconst (v := nI 0) (by decide) dX12_init_607 ?_
  refine go_callS okmX12_word lmX12_183 ⟨nle rfl, nle rfl⟩ (ex_word) npmX12_word rfl (nle rfl) ⟨nle rfl, nle rfl⟩ dX12_init_608 ?_
  rintro _ mz ⟨rfl, hmz⟩
  subst mz
  refine go_cL ?_
  rw [show (apS (apS (apS (apS (apS (apS (apS 0 (nI 103)) (nI 105)) (nI 118)) (nI 101)) (nI 115)) (nI 0)) (nI 0)) = kwM 7 by decide +kernel]
  refine go_last (j := 7) hx.i9 (by omega) (by decide) rfl dX12_init_611 ?_
  refine go_kw (j := 7) hk hx hf (fun w7 hk hx hf => ?_)
  refine go_aload_n (q := 0) (i := 0) rfl rfl dX12_init_612 ?_
  refine go_getR lf12_34 rfl hx.o hx.r9 dX12_init_613 ?_
  refine go_bipush (v := nI 8) (by decide) dX12_init_616 ?_
  refine go_bipush (v := nI 103) (by decide) dX12_init_618 ?_
  refine go_bipush (v := nI 117) (by decide) dX12_init_620 ?_
  refine go_bipush (v := nI 115) (by decide) dX12_init_622 ?_
  refine go_bipush (v := nI 116) (by decide) dX12_init_624 ?_
  refine go_bipush (v := nI 115) (by decide) dX12_init_626 ?_
  refine go_iconst (v := nI 0) (by decide) dX12_init_628 ?_
  refine go_iconst (v := nI 0) (by decide) dX12_init_629 ?_
  refine go_callS okmX12_word lmX12_183 ⟨nle rfl, nle rfl⟩ (ex_word) npmX12_word rfl (nle rfl) ⟨nle rfl, nle rfl⟩ dX12_init_630 ?_
  rintro _ mz ⟨rfl, hmz⟩
  subst mz
  refine go_cL ?_
  rw [show (apS (apS (apS (apS (apS (apS (apS 0 (nI 103)) (nI 117)) (nI 115)) (nI 116)) (nI 115)) (nI 0)) (nI 0)) = kwM 8 by decide +kernel]
  refine go_last (j := 8) hx.i9 (by omega) (by decide) rfl dX12_init_633 ?_
  refine go_kw (j := 8) hk hx hf (fun w8 hk hx hf => ?_)
  refine go_aload_n (q := 0) (i := 0) rfl rfl dX12_init_634 ?_
  refine go_getR lf12_34 rfl hx.o hx.r9 dX12_init_635 ?_
  refine go_bipush (v := nI 9) (by decide) dX12_init_638 ?_
  refine go_bipush (v := nI 108) (by decide) dX12_init_640 ?_
  refine go_bipush (v := nI 101) (by decide) dX12_init_642 ?_
  refine go_bipush (v := nI 97) (by decide) dX12_init_644 ?_
  refine go_bipush (v := nI 107) (by decide) dX12_init_646 ?_
  refine go_iconst (v := nI 0) (by decide) dX12_init_648 ?_
  refine go_iconst (v := nI 0) (by decide) dX12_init_649 ?_
  refine go_iconst (v := nI 0) (by decide) dX12_init_650 ?_
  refine go_callS okmX12_word lmX12_183 ⟨nle rfl, nle rfl⟩ (ex_word) npmX12_word rfl (nle rfl) ⟨nle rfl, nle rfl⟩ dX12_init_651 ?_
  rintro _ mz ⟨rfl, hmz⟩
  subst mz
  refine go_cL ?_
  rw [show (apS (apS (apS (apS (apS (apS (apS 0 (nI 108)) (nI 101)) (nI 97)) (nI 107)) (nI 0)) (nI 0)) (nI 0)) = kwM 9 by decide +kernel]
  refine go_last (j := 9) hx.i9 (by omega) (by decide) rfl dX12_init_654 ?_
  refine go_kw (j := 9) hk hx hf (fun w9 hk hx hf => ?_)
  refine go_aload_n (q := 0) (i := 0) rfl rfl dX12_init_655 ?_
  refine go_getR lf12_34 rfl hx.o hx.r9 dX12_init_656 ?_
  refine go_bipush (v := nI 10) (by decide) dX12_init_659 ?_
  refine go_bipush (v := nI 115) (by decide) dX12_init_661 ?_
  refine go_bipush (v := nI 101) (by decide) dX12_init_663 ?_
  refine go_bipush (v := nI 101) (by decide) dX12_init_665 ?_
  refine go_bipush (v := nI 100) (by decide) dX12_init_667 ?_
  refine go_iconst (v := nI 0) (by decide) dX12_init_669 ?_
  refine go_iconst (v := nI 0) (by decide) dX12_init_670 ?_
  refine go_iconst (v := nI 0) (by decide) dX12_init_671 ?_
  refine go_callS okmX12_word lmX12_183 ⟨nle rfl, nle rfl⟩ (ex_word) npmX12_word rfl (nle rfl) ⟨nle rfl, nle rfl⟩ dX12_init_672 ?_
  rintro _ mz ⟨rfl, hmz⟩
  subst mz
  refine go_cL ?_
  rw [show (apS (apS (apS (apS (apS (apS (apS 0 (nI 115)) (nI 101)) (nI 101)) (nI 100)) (nI 0)) (nI 0)) (nI 0)) = kwM 10 by decide +kernel]
  refine go_last (j := 10) hx.i9 (by omega) (by decide) rfl dX12_init_675 ?_
  refine go_kw (j := 10) hk hx hf (fun w10 hk hx hf => ?_)
  refine go_aload_n (q := 0) (i := 0) rfl rfl dX12_init_676 ?_
  refine go_getR lf12_34 rfl hx.o hx.r9 dX12_init_677 ?_
  refine go_bipush (v := nI 11) (by decide) dX12_init_680 ?_
  refine go_bipush (v := nI 105) (by decide) dX12_init_682 ?_
  refine go_bipush (v := nI 102) (by decide) dX12_init_684 ?_
  refine go_iconst (v := nI 0) (by decide) dX12_init_686 ?_
  refine go_iconst (v := nI 0) (by decide) dX12_init_687 ?_
  refine go_iconst (v := nI 0) (by decide) dX12_init_688 ?_
  refine go_iconst (v := nI 0) (by decide) dX12_init_689 ?_
  refine go_iconst (v := nI 0) (by decide) dX12_init_690 ?_
  refine go_callS okmX12_word lmX12_183 ⟨nle rfl, nle rfl⟩ (ex_word) npmX12_word rfl (nle rfl) ⟨nle rfl, nle rfl⟩ dX12_init_691 ?_
  rintro _ mz ⟨rfl, hmz⟩
  subst mz
  refine go_cL ?_
  rw [show (apS (apS (apS (apS (apS (apS (apS 0 (nI 105)) (nI 102)) (nI 0)) (nI 0)) (nI 0)) (nI 0)) (nI 0)) = kwM 11 by decide +kernel]
  refine go_last (j := 11) hx.i9 (by omega) (by decide) rfl dX12_init_694 ?_
  refine go_kw (j := 11) hk hx hf (fun w11 hk hx hf => ?_)
  refine go_aload_n (q := 0) (i := 0) rfl rfl dX12_init_695 ?_
  refine go_getR lf12_34 rfl hx.o hx.r9 dX12_init_696 ?_
  refine go_bipush (v := nI 12) (by decide) dX12_init_699 ?_
  refine go_bipush (v := nI 116) (by decide) dX12_init_701 ?_
  refine go_bipush (v := nI 104) (by decide) dX12_init_703 ?_
  refine go_bipush (v := nI 101) (by decide) dX12_init_705 ?_
  refine go_bipush (v := nI 110) (by decide) dX12_init_707 ?_
  refine go_iconst (v := nI 0) (by decide) dX12_init_709 ?_
  refine go_iconst (v := nI 0) (by decide) dX12_init_710 ?_
  refine go_iconst (v := nI 0) (by decide) dX12_init_711 ?_
  refine go_callS okmX12_word lmX12_183 ⟨nle rfl, nle rfl⟩ (ex_word) npmX12_word rfl (nle rfl) ⟨nle rfl, nle rfl⟩ dX12_init_712 ?_
  rintro _ mz ⟨rfl, hmz⟩
  subst mz
  refine go_cL ?_
  rw [show (apS (apS (apS (apS (apS (apS (apS 0 (nI 116)) (nI 104)) (nI 101)) (nI 110)) (nI 0)) (nI 0)) (nI 0)) = kwM 12 by decide +kernel]
  refine go_last (j := 12) hx.i9 (by omega) (by decide) rfl dX12_init_715 ?_
  refine go_kw (j := 12) hk hx hf (fun w12 hk hx hf => ?_)
  refine go_aload_n (q := 0) (i := 0) rfl rfl dX12_init_716 ?_
  refine go_getR lf12_34 rfl hx.o hx.r9 dX12_init_717 ?_
  refine go_bipush (v := nI 13) (by decide) dX12_init_720 ?_
  refine go_bipush (v := nI 101) (by decide) dX12_init_722 ?_
  refine go_bipush (v := nI 108) (by decide) dX12_init_724 ?_
  refine go_bipush (v := nI 115) (by decide) dX12_init_726 ?_
  refine go_bipush (v := nI 101) (by decide) dX12_init_728 ?_
  refine go_iconst (v := nI 0) (by decide) dX12_init_730 ?_
  refine go_iconst (v := nI 0) (by decide) dX12_init_731 ?_
  refine go_iconst (v := nI 0) (by decide) dX12_init_732 ?_
  refine go_callS okmX12_word lmX12_183 ⟨nle rfl, nle rfl⟩ (ex_word) npmX12_word rfl (nle rfl) ⟨nle rfl, nle rfl⟩ dX12_init_733 ?_
  rintro _ mz ⟨rfl, hmz⟩
  subst mz
  refine go_cL ?_
  rw [show (apS (apS (apS (apS (apS (apS (apS 0 (nI 101)) (nI 108)) (nI 115)) (nI 101)) (nI 0)) (nI 0)) (nI 0)) = kwM 13 by decide +kernel]
  refine go_last (j := 13) hx.i9 (by omega) (by decide) rfl dX12_init_736 ?_
  refine go_kw (j := 13) hk hx hf (fun w13 hk hx hf => ?_)
  refine go_aload_n (q := 0) (i := 0) rfl rfl dX12_init_737 ?_
  refine go_getR lf12_34 rfl hx.o hx.r9 dX12_init_738 ?_
  refine go_bipush (v := nI 14) (by decide) dX12_init_741 ?_
  refine go_bipush (v := nI 102) (by decide) dX12_init_743 ?_
  refine go_bipush (v := nI 111) (by decide) dX12_init_745 ?_
  refine go_bipush (v := nI 103) (by decide) dX12_init_747 ?_
  refine go_iconst (v := nI 0) (by decide) dX12_init_749 ?_
  refine go_iconst (v := nI 0) (by decide) dX12_init_750 ?_
  refine go_iconst (v := nI 0) (by decide) dX12_init_751 ?_
  refine go_iconst (v := nI 0) (by decide) dX12_init_752 ?_
  refine go_callS okmX12_word lmX12_183 ⟨nle rfl, nle rfl⟩ (ex_word) npmX12_word rfl (nle rfl) ⟨nle rfl, nle rfl⟩ dX12_init_753 ?_
  rintro _ mz ⟨rfl, hmz⟩
  subst mz
  refine go_cL ?_
  rw [show (apS (apS (apS (apS (apS (apS (apS 0 (nI 102)) (nI 111)) (nI 103)) (nI 0)) (nI 0)) (nI 0)) (nI 0)) = kwM 14 by decide +kernel]
  refine go_last (j := 14) hx.i9 (by omega) (by decide) rfl dX12_init_756 ?_
  refine go_kw (j := 14) hk hx hf (fun w14 hk hx hf => ?_)
  refine go_aload_n (q := 0) (i := 0) rfl rfl dX12_init_757 ?_
  refine go_getR lf12_34 rfl hx.o hx.r9 dX12_init_758 ?_
  refine go_bipush (v := nI 15) (by decide) dX12_init_761 ?_
  refine go_bipush (v := nI 104) (by decide) dX12_init_763 ?_
  refine go_bipush (v := nI 111) (by decide) dX12_init_765 ?_
  refine go_bipush (v := nI 117) (by decide) dX12_init_767 ?_
  refine go_bipush (v := nI 114) (by decide) dX12_init_769 ?_
  refine go_iconst (v := nI 0) (by decide) dX12_init_771 ?_
  refine go_iconst (v := nI 0) (by decide) dX12_init_772 ?_
  refine go_iconst (v := nI 0) (by decide) dX12_init_773 ?_
  refine go_callS okmX12_word lmX12_183 ⟨nle rfl, nle rfl⟩ (ex_word) npmX12_word rfl (nle rfl) ⟨nle rfl, nle rfl⟩ dX12_init_774 ?_
  rintro _ mz ⟨rfl, hmz⟩
  subst mz
  refine go_cL ?_
  rw [show (apS (apS (apS (apS (apS (apS (apS 0 (nI 104)) (nI 111)) (nI 117)) (nI 114)) (nI 0)) (nI 0)) (nI 0)) = kwM 15 by decide +kernel]
  refine go_last (j := 15) hx.i9 (by omega) (by decide) rfl dX12_init_777 ?_
  refine go_kw (j := 15) hk hx hf (fun w15 hk hx hf => ?_)
  refine go_aload_n (q := 0) (i := 0) rfl rfl dX12_init_778 ?_
  refine go_getR lf12_34 rfl hx.o hx.r9 dX12_init_779 ?_
  refine go_bipush (v := nI 16) (by decide) dX12_init_782 ?_
  refine go_bipush (v := nI 100) (by decide) dX12_init_784 ?_
  refine go_bipush (v := nI 97) (by decide) dX12_init_786 ?_
  refine go_bipush (v := nI 121) (by decide) dX12_init_788 ?_
  refine go_iconst (v := nI 0) (by decide) dX12_init_790 ?_
  refine go_iconst (v := nI 0) (by decide) dX12_init_791 ?_
  refine go_iconst (v := nI 0) (by decide) dX12_init_792 ?_
  refine go_iconst (v := nI 0) (by decide) dX12_init_793 ?_
  refine go_callS okmX12_word lmX12_183 ⟨nle rfl, nle rfl⟩ (ex_word) npmX12_word rfl (nle rfl) ⟨nle rfl, nle rfl⟩ dX12_init_794 ?_
  rintro _ mz ⟨rfl, hmz⟩
  subst mz
  refine go_cL ?_
  rw [show (apS (apS (apS (apS (apS (apS (apS 0 (nI 100)) (nI 97)) (nI 121)) (nI 0)) (nI 0)) (nI 0)) (nI 0)) = kwM 16 by decide +kernel]
  refine go_last (j := 16) hx.i9 (by omega) (by decide) rfl dX12_init_797 ?_
  refine go_kw (j := 16) hk hx hf (fun w16 hk hx hf => ?_)
  refine go_aload_n (q := 0) (i := 0) rfl rfl dX12_init_798 ?_
  refine go_getR lf12_34 rfl hx.o hx.r9 dX12_init_799 ?_
  refine go_bipush (v := nI 17) (by decide) dX12_init_802 ?_
  refine go_bipush (v := nI 97) (by decide) dX12_init_804 ?_
  refine go_bipush (v := nI 99) (by decide) dX12_init_806 ?_
  refine go_bipush (v := nI 114) (by decide) dX12_init_808 ?_
  refine go_bipush (v := nI 111) (by decide) dX12_init_810 ?_
  refine go_bipush (v := nI 115) (by decide) dX12_init_812 ?_
  refine go_bipush (v := nI 115) (by decide) dX12_init_814 ?_
  refine go_iconst (v := nI 0) (by decide) dX12_init_816 ?_
  refine go_callS okmX12_word lmX12_183 ⟨nle rfl, nle rfl⟩ (ex_word) npmX12_word rfl (nle rfl) ⟨nle rfl, nle rfl⟩ dX12_init_817 ?_
  rintro _ mz ⟨rfl, hmz⟩
  subst mz
  refine go_cL ?_
  rw [show (apS (apS (apS (apS (apS (apS (apS 0 (nI 97)) (nI 99)) (nI 114)) (nI 111)) (nI 115)) (nI 115)) (nI 0)) = kwM 17 by decide +kernel]
  refine go_last (j := 17) hx.i9 (by omega) (by decide) rfl dX12_init_820 ?_
  refine go_kw (j := 17) hk hx hf (fun w17 hk hx hf => ?_)
  refine go_aload_n (q := 0) (i := 0) rfl rfl dX12_init_821 ?_
  refine go_getR lf12_34 rfl hx.o hx.r9 dX12_init_822 ?_
  refine go_bipush (v := nI 18) (by decide) dX12_init_825 ?_
  refine go_bipush (v := nI 100) (by decide) dX12_init_827 ?_
  refine go_bipush (v := nI 111) (by decide) dX12_init_829 ?_
  refine go_bipush (v := nI 119) (by decide) dX12_init_831 ?_
  refine go_bipush (v := nI 110) (by decide) dX12_init_833 ?_
  refine go_iconst (v := nI 0) (by decide) dX12_init_835 ?_
  refine go_iconst (v := nI 0) (by decide) dX12_init_836 ?_
  refine go_iconst (v := nI 0) (by decide) dX12_init_837 ?_
  refine go_callS okmX12_word lmX12_183 ⟨nle rfl, nle rfl⟩ (ex_word) npmX12_word rfl (nle rfl) ⟨nle rfl, nle rfl⟩ dX12_init_838 ?_
  rintro _ mz ⟨rfl, hmz⟩
  subst mz
  refine go_cL ?_
  rw [show (apS (apS (apS (apS (apS (apS (apS 0 (nI 100)) (nI 111)) (nI 119)) (nI 110)) (nI 0)) (nI 0)) (nI 0)) = kwM 18 by decide +kernel]
  refine go_last (j := 18) hx.i9 (by omega) (by decide) rfl dX12_init_841 ?_
  refine go_kw (j := 18) hk hx hf (fun w18 hk hx hf => ?_)
  refine go_aload_n (q := 0) (i := 0) rfl rfl dX12_init_842 ?_
  refine go_getR lf12_34 rfl hx.o hx.r9 dX12_init_843 ?_
  refine go_bipush (v := nI 19) (by decide) dX12_init_846 ?_
  refine go_bipush (v := nI 119) (by decide) dX12_init_848 ?_
  refine go_bipush (v := nI 104) (by decide) dX12_init_850 ?_
  refine go_bipush (v := nI 111) (by decide) dX12_init_852 ?_
  refine go_bipush (v := nI 115) (by decide) dX12_init_854 ?_
  refine go_bipush (v := nI 101) (by decide) dX12_init_856 ?_
  refine go_iconst (v := nI 0) (by decide) dX12_init_858 ?_
  refine go_iconst (v := nI 0) (by decide) dX12_init_859 ?_
  refine go_callS okmX12_word lmX12_183 ⟨nle rfl, nle rfl⟩ (ex_word) npmX12_word rfl (nle rfl) ⟨nle rfl, nle rfl⟩ dX12_init_860 ?_
  rintro _ mz ⟨rfl, hmz⟩
  subst mz
  refine go_cL ?_
  rw [show (apS (apS (apS (apS (apS (apS (apS 0 (nI 119)) (nI 104)) (nI 111)) (nI 115)) (nI 101)) (nI 0)) (nI 0)) = kwM 19 by decide +kernel]
  refine go_last (j := 19) hx.i9 (by omega) (by decide) rfl dX12_init_863 ?_
  refine go_kw (j := 19) hk hx hf (fun w19 hk hx hf => ?_)
  refine go_aload_n (q := 0) (i := 0) rfl rfl dX12_init_864 ?_
  refine go_getR lf12_34 rfl hx.o hx.r9 dX12_init_865 ?_
  refine go_bipush (v := nI 20) (by decide) dX12_init_868 ?_
  refine go_bipush (v := nI 115) (by decide) dX12_init_870 ?_
  refine go_bipush (v := nI 116) (by decide) dX12_init_872 ?_
  refine go_bipush (v := nI 111) (by decide) dX12_init_874 ?_
  refine go_bipush (v := nI 114) (by decide) dX12_init_876 ?_
  refine go_bipush (v := nI 101) (by decide) dX12_init_878 ?_
  refine go_iconst (v := nI 0) (by decide) dX12_init_880 ?_
  refine go_iconst (v := nI 0) (by decide) dX12_init_881 ?_
  refine go_callS okmX12_word lmX12_183 ⟨nle rfl, nle rfl⟩ (ex_word) npmX12_word rfl (nle rfl) ⟨nle rfl, nle rfl⟩ dX12_init_882 ?_
  rintro _ mz ⟨rfl, hmz⟩
  subst mz
  refine go_cL ?_
  rw [show (apS (apS (apS (apS (apS (apS (apS 0 (nI 115)) (nI 116)) (nI 111)) (nI 114)) (nI 101)) (nI 0)) (nI 0)) = kwM 20 by decide +kernel]
  refine go_last (j := 20) hx.i9 (by omega) (by decide) rfl dX12_init_885 ?_
  refine go_kw (j := 20) hk hx hf (fun w20 hk hx hf => ?_)
  refine go_aload_n (q := 0) (i := 0) rfl rfl dX12_init_886 ?_
  refine go_getR lf12_34 rfl hx.o hx.r9 dX12_init_887 ?_
  refine go_bipush (v := nI 21) (by decide) dX12_init_890 ?_
  refine go_bipush (v := nI 114) (by decide) dX12_init_892 ?_
  refine go_bipush (v := nI 97) (by decide) dX12_init_894 ?_
  refine go_bipush (v := nI 116) (by decide) dX12_init_896 ?_
  refine go_bipush (v := nI 105) (by decide) dX12_init_898 ?_
  refine go_bipush (v := nI 111) (by decide) dX12_init_900 ?_
  refine go_bipush (v := nI 110) (by decide) dX12_init_902 ?_
  refine go_iconst (v := nI 0) (by decide) dX12_init_904 ?_
  refine go_callS okmX12_word lmX12_183 ⟨nle rfl, nle rfl⟩ (ex_word) npmX12_word rfl (nle rfl) ⟨nle rfl, nle rfl⟩ dX12_init_905 ?_
  rintro _ mz ⟨rfl, hmz⟩
  subst mz
  refine go_cL ?_
  rw [show (apS (apS (apS (apS (apS (apS (apS 0 (nI 114)) (nI 97)) (nI 116)) (nI 105)) (nI 111)) (nI 110)) (nI 0)) = kwM 21 by decide +kernel]
  refine go_last (j := 21) hx.i9 (by omega) (by decide) rfl dX12_init_908 ?_
  refine go_kw (j := 21) hk hx hf (fun w21 hk hx hf => ?_)
  refine go_aload_n (q := 0) (i := 0) rfl rfl dX12_init_909 ?_
  refine go_getR lf12_34 rfl hx.o hx.r9 dX12_init_910 ?_
  refine go_bipush (v := nI 22) (by decide) dX12_init_913 ?_
  refine go_bipush (v := nI 98) (by decide) dX12_init_915 ?_
  refine go_bipush (v := nI 108) (by decide) dX12_init_917 ?_
  refine go_bipush (v := nI 111) (by decide) dX12_init_919 ?_
  refine go_bipush (v := nI 119) (by decide) dX12_init_921 ?_
  refine go_bipush (v := nI 115) (by decide) dX12_init_923 ?_
  refine go_iconst (v := nI 0) (by decide) dX12_init_925 ?_
  refine go_iconst (v := nI 0) (by decide) dX12_init_926 ?_
  refine go_callS okmX12_word lmX12_183 ⟨nle rfl, nle rfl⟩ (ex_word) npmX12_word rfl (nle rfl) ⟨nle rfl, nle rfl⟩ dX12_init_927 ?_
  rintro _ mz ⟨rfl, hmz⟩
  subst mz
  refine go_cL ?_
  rw [show (apS (apS (apS (apS (apS (apS (apS 0 (nI 98)) (nI 108)) (nI 111)) (nI 119)) (nI 115)) (nI 0)) (nI 0)) = kwM 22 by decide +kernel]
  refine go_last (j := 22) hx.i9 (by omega) (by decide) rfl dX12_init_930 ?_
  refine go_kw (j := 22) hk hx hf (fun w22 hk hx hf => ?_)
  have gg : ∀ x, ¬ (284 ≤ x ∧ x ≤ 304 ∧ x ≠ 287) → gI w22 x = I1 x := fun x h => (congrFun hf.2.1 x).trans (hfy.at h)
  have g4 : ∀ k, k ≠ 17 → gI w22 274 k = nI 0 := fun k h => by rw [gg 274 (by decide)]; exact hI4 k h
  have hM : MdC w22 (plD drZ) 0 := rd_md (c := fun _ => 0) (p := 0) (by decide) (g4 18 (by decide)) ((hr1.keep (fun x a b => by rw [hf.2.1])).u (g4 20 (by decide))) drZ_c (LwI.z (fun k h => by rw [hf.2.1]; exact hr2 k h) (g4 12 (by decide)) (g4 44 (by decide)) (g4 50 (by decide)) ⟨[], by decide, g4 54 (by decide), fun i k h => by cases h⟩) (by decide) drZ_ok.1 CnZ (fun k h => by
    rw [hf.2.1, show gI m2 287 = I1 287 from hfy.at (by decide), hIz 287 (by decide)]
    rfl)
  refine go_aload_n (q := 0) (i := 0) rfl rfl dX12_init_931 ?_
  refine go_callV okmX12_begins lmX12_187 ⟨nle rfl, nle rfl⟩ hx.o ⟨by decide, rfl⟩ (ex_begins (lv := 0) hx hM plZ) npmX12_begins rfl (nle rfl) ⟨nle rfl, nle rfl⟩ dX12_init_932 ?_
  rintro _ m23 ⟨rfl, c7, b1, b2, b3, b4⟩
  have hM3 := c7.md hM
  have hx := c7.wf hx
  refine go_c0 ?_
  refine go_aload_n (q := 0) (i := 0) rfl rfl dX12_init_935 ?_
  refine go_callV okmX12_keepsRow lmX12_190 ⟨nle rfl, nle rfl⟩ hx.o ⟨by decide, rfl⟩ (ex_keepsRow hx) npmX12_keepsRow rfl (nle rfl) ⟨nle rfl, nle rfl⟩ dX12_init_936 ?_
  rintro _ m24 ⟨rfl, he8⟩
  have hx : Wf12 m24.1 (gR m24) := by rw [he8]; exact hx
  refine go_c0 ?_
  refine go_vret rfl ⟨nle rfl, nle rfl⟩ dX12_init_939 ⟨rfl, ?_⟩
  have e8 : ∀ x, x ≠ 315 → gI m24 x = gI m23 x := fun x a => by rw [he8, gI_n a]
  have e7 : ∀ x, x ≠ 274 → x ≠ 313 → x ≠ 314 → x ≠ 316 → x ≠ 317 → gI m23 x = gI w22 x := fun x a b c d e => c7.1.at (by omega)
  have eJ : gJ m24 = gJ w22 := by rw [he8]; exact c7.1.2.1
  have e4 : ∀ k, k ≠ 57 → k ≠ 60 → k ≠ 61 → gI m24 274 k = gI w22 274 k := fun k a b c => by rw [e8 274 (by decide)]; exact c7.2 k a b c
  refine ⟨?_, hx, fun x hl => ⟨?_, ?_, ?_⟩, fun k h => by rw [eJ]; exact hk k h, hM3.keep (by rw [e8 274 (by decide)]) (fun x a b => e8 x (by omega)), fun k h => by rw [he8, gI_s, cp_in h]; exact b1 k h, ?_, ?_, ?_, ?_, ?_, ?_, ?_⟩
  · rw [he8]; exact c7.1.1.trans (hf.1.trans hfy.1)
  · rw [e8 x (by omega), e7 x (by omega) (by omega) (by omega) (by omega) (by omega), gg x (by omega)]; exact hIx x (by omega)
  · rw [eJ, hf.2.2.2 x (by omega)]; exact hfy.aj (fun q => q)
  · rw [show gR m24 = gR m23 by rw [he8]; rfl, c7.1.2.2.1, hf.2.2.1, hfy.2.1]
    show va_up R 274 TR12 x = va_up R 274 _ x
    rw [up_n (by omega), up_n (by omega)]
  · rw [e4 17 (by decide) (by decide) (by decide), gg 274 (by decide)]; exact hI17
  · rw [e4 2 (by decide) (by decide) (by decide)]; exact g4 2 (by decide)
  · rw [e4 54 (by decide) (by decide) (by decide)]; exact g4 54 (by decide)
  · rw [e4 63 (by decide) (by decide) (by decide)]; exact g4 63 (by decide)
  · rw [e4 68 (by decide) (by decide) (by decide)]; exact g4 68 (by decide)
  · rw [e8 320 (by decide), e7 320 (by decide) (by decide) (by decide) (by decide) (by decide), gg 320 (by decide)]; exact hIz 320 (by decide)
  · rw [e8 326 (by decide), e7 326 (by decide) (by decide) (by decide) (by decide) (by decide), gg 326 (by decide)]; exact hIz 326 (by decide)
