/-- the reference's plan: side lv -/
def MdC (m : Me) (P : Pl) (lv : Nat) : Prop := lv < 2 ∧ gI m 274 18 = nI lv ∧ gI m 284 lv = nI P.wd ∧ gI m 285 lv = nI P.rw ∧ gI m 288 lv = nI P.hd ∧ gI m 291 lv = nI P.us ∧ gI m 296 lv = nI P.bk ∧ gI m 300 lv = P.gu ∧ gI m 301 lv = P.le ∧ gI m 302 lv = P.se ∧ (∀ h, h < P.hd → gI m 289 (4 * lv + h) = P.ra h ∧ gI m 290 (4 * lv + h) = P.st h) ∧ (∀ u, u < P.us → gI m 292 (6 * lv + u) = P.uo u ∧ gI m 293 (6 * lv + u) = P.uf u ∧ gI m 294 (6 * lv + u) = P.ut u ∧ gI m 295 (6 * lv + u) = P.uk u) ∧ (∀ c, c < 40 → ld P c → gI m 286 (40 * lv + c) = P.wh c ∧ gI m 287 (40 * lv + c) = P.fo c) ∧ LwQ m P lv
theorem MdC.lv {m : Me} {P : Pl} {lv : Nat} (h : MdC m P lv) : lv < 2 := h.1
theorem MdC.li {m : Me} {P : Pl} {lv : Nat} (h : MdC m P lv) : gI m 274 18 = nI lv := h.2.1
theorem MdC.wd {m : Me} {P : Pl} {lv : Nat} (h : MdC m P lv) : gI m 284 lv = nI P.wd := h.2.2.1
theorem MdC.rw {m : Me} {P : Pl} {lv : Nat} (h : MdC m P lv) : gI m 285 lv = nI P.rw := h.2.2.2.1
theorem MdC.hd {m : Me} {P : Pl} {lv : Nat} (h : MdC m P lv) : gI m 288 lv = nI P.hd := h.2.2.2.2.1
theorem MdC.us {m : Me} {P : Pl} {lv : Nat} (h : MdC m P lv) : gI m 291 lv = nI P.us := h.2.2.2.2.2.1
theorem MdC.bk {m : Me} {P : Pl} {lv : Nat} (h : MdC m P lv) : gI m 296 lv = nI P.bk := h.2.2.2.2.2.2.1
theorem MdC.gu {m : Me} {P : Pl} {lv : Nat} (h : MdC m P lv) : gI m 300 lv = P.gu := h.2.2.2.2.2.2.2.1
theorem MdC.le {m : Me} {P : Pl} {lv : Nat} (h : MdC m P lv) : gI m 301 lv = P.le := h.2.2.2.2.2.2.2.2.1
theorem MdC.se {m : Me} {P : Pl} {lv : Nat} (h : MdC m P lv) : gI m 302 lv = P.se := h.2.2.2.2.2.2.2.2.2.1
theorem MdC.ra {m : Me} {P : Pl} {lv : Nat} (h : MdC m P lv) : ∀ h, h < P.hd → gI m 289 (4 * lv + h) = P.ra h ∧ gI m 290 (4 * lv + h) = P.st h := h.2.2.2.2.2.2.2.2.2.2.1
theorem MdC.uu {m : Me} {P : Pl} {lv : Nat} (h : MdC m P lv) : ∀ u, u < P.us → gI m 292 (6 * lv + u) = P.uo u ∧ gI m 293 (6 * lv + u) = P.uf u ∧ gI m 294 (6 * lv + u) = P.ut u ∧ gI m 295 (6 * lv + u) = P.uk u := h.2.2.2.2.2.2.2.2.2.2.2.1
theorem MdC.ce {m : Me} {P : Pl} {lv : Nat} (h : MdC m P lv) : ∀ c, c < 40 → ld P c → gI m 286 (40 * lv + c) = P.wh c ∧ gI m 287 (40 * lv + c) = P.fo c := h.2.2.2.2.2.2.2.2.2.2.2.2.1
theorem MdC.lq {m : Me} {P : Pl} {lv : Nat} (h : MdC m P lv) : LwQ m P lv := h.2.2.2.2.2.2.2.2.2.2.2.2.2
theorem MdC.lw {m : Me} {P : Pl} {lv : Nat} (h : MdC m P lv) : LwM m P lv := h.lq.lw h.1
theorem MdC.keep {m m' : Me} {P : Pl} {lv : Nat} (h : MdC m P lv) (h0 : gI m' 274 18 = gI m 274 18) (hk : ∀ x, 284 ≤ x → x ≤ 311 → gI m' x = gI m x) : MdC m' P lv := by
  refine ⟨h.lv, by rw [h0]; exact h.li, ?_, ?_, ?_, ?_, ?_, ?_, ?_, ?_, ?_, ?_, ?_, h.lq.keep (fun x a b => hk x (by omega) b)⟩
  · rw [hk _ (by decide) (by decide)]; exact h.wd
  · rw [hk _ (by decide) (by decide)]; exact h.rw
  · rw [hk _ (by decide) (by decide)]; exact h.hd
  · rw [hk _ (by decide) (by decide)]; exact h.us
  · rw [hk _ (by decide) (by decide)]; exact h.bk
  · rw [hk _ (by decide) (by decide)]; exact h.gu
  · rw [hk _ (by decide) (by decide)]; exact h.le
  · rw [hk _ (by decide) (by decide)]; exact h.se
  · rw [hk 289 (by decide) (by decide), hk 290 (by decide) (by decide)]; exact h.ra
  · rw [hk 292 (by decide) (by decide), hk 293 (by decide) (by decide), hk 294 (by decide) (by decide), hk 295 (by decide) (by decide)]; exact h.uu
  · rw [hk 286 (by decide) (by decide), hk 287 (by decide) (by decide)]; exact h.ce
/-- what the reference's hours and looks may write -/
def Mo (m m' : Me) : Prop := Ch (fun x => x = 274 ∨ x = 313 ∨ x = 314 ∨ x = 316 ∨ x = 317) m m' ∧ ∀ k, k ≠ 57 → k ≠ 60 → k ≠ 61 → gI m' 274 k = gI m 274 k
theorem Mo.rf {m : Me} : Mo m m := ⟨Ch.rf, fun _ _ _ _ => rfl⟩
theorem Mo.tr {m m' m'' : Me} (h : Mo m m') (k : Mo m' m'') : Mo m m'' := ⟨h.1.tr k.1, fun x a b c => (k.2 x a b c).trans (h.2 x a b c)⟩
theorem Mo.md {m m' : Me} {P : Pl} {lv : Nat} (h : Mo m m') (k : MdC m P lv) : MdC m' P lv := k.keep (h.2 18 (by decide) (by decide) (by decide)) (fun x a b => h.1.at (by omega))
theorem Mo.wf {m m' : Me} (h : Mo m m') (k : Wf12 m.1 (gR m)) : Wf12 m'.1 (gR m') := Ch.to (F := fun n R => Wf12 n R) h.1 k
/-- an hour's: the lots and the leak's place stay -/
def Mh (m m' : Me) : Prop := Mo m m' ∧ gI m' 274 60 = gI m 274 60 ∧ gI m' 274 61 = gI m 274 61
theorem Mh.rf {m : Me} : Mh m m := ⟨Mo.rf, rfl, rfl⟩
theorem Mh.tr {m m' m'' : Me} (h : Mh m m') (k : Mh m' m'') : Mh m m'' := ⟨h.1.tr k.1, k.2.1.trans h.2.1, k.2.2.trans h.2.2⟩
theorem Mh.of {m m' : Me} (c : Ch (fun x => x = 313 ∨ x = 314 ∨ x = 316 ∨ x = 317) m m') : Mh m m' := by
  have e : gI m' 274 = gI m 274 := c.at (by decide)
  exact ⟨⟨c.mn (fun x hx => Or.inr hx), fun k _ _ _ => by rw [e]⟩, by rw [e], by rw [e]⟩
theorem Mh.cb {m m' : Me} (c : Cb m m') : Mh m m' := ⟨⟨c.1.mn (fun x hx => by omega), fun k a _ _ => c.2 k a⟩, c.2 60 (by decide), c.2 61 (by decide)⟩
/-- is it a cell -/
def icS (P : Pl) (x y : Int32) : Int32 := if inS x (nI 0) (nI P.wd - nI 1) = nI 0 then nI 0 else if inS y (nI 0) (nI P.rw - nI 1) = nI 0 then nI 0 else nI 1
theorem inS_z (a b c : Int32) : narrow .boolean (.int (inS a b c)) = .int (inS a b c) := by
  unfold inS
  split
  · rfl
  · split <;> rfl
set_option maxRecDepth 100000 in
set_option maxHeartbeats 4000000 in
theorem ex_isCell {m : Me} {P : Pl} {lv : Nat} (hx : Wf12 m.1 (gR m)) (hm : MdC m P lv) {x y : Int32} : Ev mX12_isCell [.ref 274, .int x, .int y] m (fun r m' => r = some (.int (icS P x y)) ∧ m' = m) := by
  refine ⟨plmX12_isCell, nle rfl, ?_⟩
  have hlv := hm.lv
  refine go_iload_n (q := 1) (i := 1) rfl rfl dX12_isCell_0 ?_
  refine go_iconst (v := nI 0) (by decide) dX12_isCell_1 ?_
  refine go_aload_n (q := 0) (i := 0) rfl rfl dX12_isCell_2 ?_
  refine go_getR lf12_46 rfl hx.o hx.r23 dX12_isCell_3 ?_
  refine go_aload_n (q := 0) (i := 0) rfl rfl dX12_isCell_6 ?_
  refine go_getI lf12_260 rfl hx.o dX12_isCell_7 ?_
  rw [hm.li]
  refine go_iald (j := lv) hx.i23 (by omega) (by first | decide | omega) rfl dX12_isCell_10 ?_
  rw [hm.wd]
  refine go_iconst (v := nI 1) (by decide) dX12_isCell_11 ?_
  refine go_isub dX12_isCell_12 ?_
  refine go_callS okmX12_in lmX12_361 ⟨nle rfl, nle rfl⟩ (ex_in) npmX12_in rfl (nle rfl) ⟨nle rfl, nle rfl⟩ dX12_isCell_13 ?_
  rintro _ mz ⟨rfl, hz⟩
  subst mz
  refine go_c1 ?_
  refine go_if_eq (tgt := 42) dX12_isCell_16 (by decide) (fun h16 => ?_) (fun h16 => ?_)
  · skip
    refine go_iconst (v := nI 0) (by decide) dX12_isCell_42 ?_
    refine go_zret rfl (by decide) ⟨Nat.zero_le _, Nat.zero_le _⟩ dX12_isCell_43 ?_
    refine ⟨?_, rfl⟩
    unfold icS
    repeat (first | rw [if_pos (by assumption)] | rw [if_neg (by assumption)])
  · skip
    refine go_iload_n (q := 2) (i := 2) rfl rfl dX12_isCell_19 ?_
    refine go_iconst (v := nI 0) (by decide) dX12_isCell_20 ?_
    refine go_aload_n (q := 0) (i := 0) rfl rfl dX12_isCell_21 ?_
    refine go_getR lf12_49 rfl hx.o hx.r24 dX12_isCell_22 ?_
    refine go_aload_n (q := 0) (i := 0) rfl rfl dX12_isCell_25 ?_
    refine go_getI lf12_260 rfl hx.o dX12_isCell_26 ?_
    rw [hm.li]
    refine go_iald (j := lv) hx.i24 (by omega) (by first | decide | omega) rfl dX12_isCell_29 ?_
    rw [hm.rw]
    refine go_iconst (v := nI 1) (by decide) dX12_isCell_30 ?_
    refine go_isub dX12_isCell_31 ?_
    refine go_callS okmX12_in lmX12_361 ⟨nle rfl, nle rfl⟩ (ex_in) npmX12_in rfl (nle rfl) ⟨nle rfl, nle rfl⟩ dX12_isCell_32 ?_
    rintro _ mz ⟨rfl, hz⟩
    subst mz
    refine go_c1 ?_
    refine go_if_eq (tgt := 42) dX12_isCell_35 (by decide) (fun h35 => ?_) (fun h35 => ?_)
    · skip
      refine go_iconst (v := nI 0) (by decide) dX12_isCell_42 ?_
      refine go_zret rfl (by decide) ⟨Nat.zero_le _, Nat.zero_le _⟩ dX12_isCell_43 ?_
      refine ⟨?_, rfl⟩
      unfold icS
      repeat (first | rw [if_pos (by assumption)] | rw [if_neg (by assumption)])
    · skip
      refine go_iconst (v := nI 1) (by decide) dX12_isCell_38 ?_
      refine go_goto (tgt := 43) dX12_isCell_39 (by decide) ?_
      refine go_zret rfl (by decide) ⟨Nat.zero_le _, Nat.zero_le _⟩ dX12_isCell_43 ?_
      refine ⟨?_, rfl⟩
      unfold icS
      repeat (first | rw [if_pos (by assumption)] | rw [if_neg (by assumption)])
set_option maxRecDepth 100000 in
set_option maxHeartbeats 4000000 in
theorem ex_isHolding {m : Me} {P : Pl} {lv : Nat} (hx : Wf12 m.1 (gR m)) (hm : MdC m P lv) {x : Int32} : Ev mX12_isHolding [.ref 274, .int x] m (fun r m' => r = some (.int (inS x (nI 0) (nI P.hd - nI 1))) ∧ m' = m) := by
  refine ⟨plmX12_isHolding, nle rfl, ?_⟩
  have hlv := hm.lv
  refine go_iload_n (q := 1) (i := 1) rfl rfl dX12_isHolding_0 ?_
  refine go_iconst (v := nI 0) (by decide) dX12_isHolding_1 ?_
  refine go_aload_n (q := 0) (i := 0) rfl rfl dX12_isHolding_2 ?_
  refine go_getR lf12_58 rfl hx.o hx.r27 dX12_isHolding_3 ?_
  refine go_aload_n (q := 0) (i := 0) rfl rfl dX12_isHolding_6 ?_
  refine go_getI lf12_260 rfl hx.o dX12_isHolding_7 ?_
  rw [hm.li]
  refine go_iald (j := lv) hx.i27 (by omega) (by first | decide | omega) rfl dX12_isHolding_10 ?_
  rw [hm.hd]
  refine go_iconst (v := nI 1) (by decide) dX12_isHolding_11 ?_
  refine go_isub dX12_isHolding_12 ?_
  refine go_callS okmX12_in lmX12_361 ⟨nle rfl, nle rfl⟩ (ex_in) npmX12_in rfl (nle rfl) ⟨nle rfl, nle rfl⟩ dX12_isHolding_13 ?_
  rintro _ mz ⟨rfl, hz⟩
  subst mz
  refine go_c1 ?_
  refine go_zret rfl (inS_z _ _ _) ⟨Nat.zero_le _, Nat.zero_le _⟩ dX12_isHolding_16 ?_
  exact ⟨rfl, rfl⟩
set_option maxRecDepth 100000 in
set_option maxHeartbeats 4000000 in
theorem ex_isUse {m : Me} {P : Pl} {lv : Nat} (hx : Wf12 m.1 (gR m)) (hm : MdC m P lv) {x : Int32} : Ev mX12_isUse [.ref 274, .int x] m (fun r m' => r = some (.int (inS x (nI 0) (nI P.us - nI 1))) ∧ m' = m) := by
  refine ⟨plmX12_isUse, nle rfl, ?_⟩
  have hlv := hm.lv
  refine go_iload_n (q := 1) (i := 1) rfl rfl dX12_isUse_0 ?_
  refine go_iconst (v := nI 0) (by decide) dX12_isUse_1 ?_
  refine go_aload_n (q := 0) (i := 0) rfl rfl dX12_isUse_2 ?_
  refine go_getR lf12_67 rfl hx.o hx.r30 dX12_isUse_3 ?_
  refine go_aload_n (q := 0) (i := 0) rfl rfl dX12_isUse_6 ?_
  refine go_getI lf12_260 rfl hx.o dX12_isUse_7 ?_
  rw [hm.li]
  refine go_iald (j := lv) hx.i30 (by omega) (by first | decide | omega) rfl dX12_isUse_10 ?_
  rw [hm.us]
  refine go_iconst (v := nI 1) (by decide) dX12_isUse_11 ?_
  refine go_isub dX12_isUse_12 ?_
  refine go_callS okmX12_in lmX12_361 ⟨nle rfl, nle rfl⟩ (ex_in) npmX12_in rfl (nle rfl) ⟨nle rfl, nle rfl⟩ dX12_isUse_13 ?_
  rintro _ mz ⟨rfl, hz⟩
  subst mz
  refine go_c1 ?_
  refine go_zret rfl (inS_z _ _ _) ⟨Nat.zero_le _, Nat.zero_le _⟩ dX12_isUse_16 ?_
  exact ⟨rfl, rfl⟩
set_option maxRecDepth 100000 in
set_option maxHeartbeats 4000000 in
theorem ex_isGust {m : Me} {P : Pl} {lv : Nat} (hx : Wf12 m.1 (gR m)) (hm : MdC m P lv) : Ev mX12_isGust [.ref 274] m (fun r m' => r = some (.int (guS P.gu (gI m 274 60) (gI m 316 104))) ∧ m' = m) := by
  refine ⟨plmX12_isGust, nle rfl, ?_⟩
  have hlv := hm.lv
  refine go_aload_n (q := 0) (i := 0) rfl rfl dX12_isGust_0 ?_
  refine go_getI lf12_365 rfl hx.o dX12_isGust_1 ?_
  refine go_bipush (v := nI 105) (by decide) dX12_isGust_4 ?_
  refine go_callS okmX12_mixed lmX12_372 ⟨nle rfl, nle rfl⟩ (ex_mixed) npmX12_mixed rfl (nle rfl) ⟨nle rfl, nle rfl⟩ dX12_isGust_6 ?_
  rintro _ mz ⟨rfl, hz⟩
  subst mz
  refine go_c1 ?_
  refine go_iconst (v := nI 4) (by decide) dX12_isGust_9 ?_
  refine go_aload_n (q := 0) (i := 0) rfl rfl dX12_isGust_10 ?_
  refine go_getR lf12_143 rfl hx.o hx.r59 dX12_isGust_11 ?_
  refine go_bipush (v := nI 104) (by decide) dX12_isGust_14 ?_
  refine go_iald (j := 104) hx.i59 (by omega) (by first | decide | omega) rfl dX12_isGust_16 ?_
  refine go_imul dX12_isGust_17 ?_
  refine go_callS okmX12_mixed lmX12_372 ⟨nle rfl, nle rfl⟩ (ex_mixed) npmX12_mixed rfl (nle rfl) ⟨nle rfl, nle rfl⟩ dX12_isGust_18 ?_
  rintro _ mz ⟨rfl, hz⟩
  subst mz
  refine go_c1 ?_
  refine go_iconst (v := nI 1) (by decide) dX12_isGust_21 ?_
  refine go_iushr dX12_isGust_22 ?_
  refine go_bipush (v := nI 100) (by decide) dX12_isGust_23 ?_
  refine go_irem (by decide) dX12_isGust_25 ?_
  refine go_aload_n (q := 0) (i := 0) rfl rfl dX12_isGust_26 ?_
  refine go_getR lf12_94 rfl hx.o hx.r39 dX12_isGust_27 ?_
  refine go_aload_n (q := 0) (i := 0) rfl rfl dX12_isGust_30 ?_
  refine go_getI lf12_260 rfl hx.o dX12_isGust_31 ?_
  rw [hm.li]
  refine go_iald (j := lv) hx.i39 (by omega) (by first | decide | omega) rfl dX12_isGust_34 ?_
  rw [hm.gu]
  refine go_icmp_ge (tgt := 42) dX12_isGust_35 (by decide) (fun h35 => ?_) (fun h35 => ?_)
  · skip
    refine go_iconst (v := nI 0) (by decide) dX12_isGust_42 ?_
    refine go_zret rfl (by decide) ⟨Nat.zero_le _, Nat.zero_le _⟩ dX12_isGust_43 ?_
    refine ⟨?_, rfl⟩
    unfold guS
    first | rw [if_pos (by assumption)] | rw [if_neg (by assumption)]
  · skip
    refine go_iconst (v := nI 1) (by decide) dX12_isGust_38 ?_
    refine go_goto (tgt := 43) dX12_isGust_39 (by decide) ?_
    refine go_zret rfl (by decide) ⟨Nat.zero_le _, Nat.zero_le _⟩ dX12_isGust_43 ?_
    refine ⟨?_, rfl⟩
    unfold guS
    first | rw [if_pos (by assumption)] | rw [if_neg (by assumption)]
/-- what the reference's windIn tells -/
def wM (P : Pl) (h : Int32) : Int32 := if 0 ≤ P.lw 0 (cvS h) then P.lw 0 (cvS h) - P.lw 0 (cvS h) / nI 5 * nI 5 else nI 0
theorem lw_c {P : Pl} (ok : PlOk P) {k : Nat} {v v' : Nat → Int32} (hk : k < 4) (h : ∀ i, i < 9 → v i = v' i) : P.lw k v = P.lw k v' := ok.2.2.2.2.2.2.2.2.2.2.2.2 k v v' hk h
set_option maxRecDepth 100000 in
set_option maxHeartbeats 4000000 in
theorem ex_windIn {m : Me} {P : Pl} {lv : Nat} (hx : Wf12 m.1 (gR m)) (hm : MdC m P lv) {h : Int32} (ok : PlOk P) : Ev mX12_windIn [.ref 274, .int h] m (fun r m' => r = some (.int (wM P h)) ∧ Mh m m' ∧ gI m' 316 = gI m 316) := by
  refine ⟨plmX12_windIn, nle rfl, ?_⟩
  have hlv := hm.lv
  refine go_aload_n (q := 0) (i := 0) rfl rfl dX12_windIn_0 ?_
  refine go_iload_n (q := 1) (i := 1) rfl rfl dX12_windIn_1 ?_
  refine go_callV okmX12_looks lmX12_378 ⟨nle rfl, nle rfl⟩ hx.o ⟨by decide, rfl⟩ (ex_looks hx) npmX12_looks rfl (nle rfl) ⟨nle rfl, nle rfl⟩ dX12_windIn_2 ?_
  rintro _ m1 ⟨rfl, h1⟩
  have c1 : Mh m m1 := Mh.of (by rw [h1]; exact Ch.I (Or.inl rfl))
  have e1 : gI m1 313 = cp 9 (cvS h) (gI m 313) := by rw [h1, gI_s]
  have e16 : gI m1 316 = gI m 316 := by rw [h1]; exact gI_n (by decide)
  have hx := c1.1.wf hx
  have hm := c1.1.md hm
  refine go_c0 ?_
  refine go_aload_n (q := 0) (i := 0) rfl rfl dX12_windIn_5 ?_
  refine go_iconst (v := nI 0) (by decide) dX12_windIn_6 ?_
  refine go_iconst (v := nI 0) (by decide) dX12_windIn_7 ?_
  refine go_callV okmX12_lawTells lmX12_381 ⟨nle rfl, nle rfl⟩ hx.o ⟨by decide, rfl⟩ (ex_lawTells (k := 0) hx hm.li hlv (by decide) hm.lw rfl) npmX12_lawTells rfl (nle rfl) ⟨nle rfl, nle rfl⟩ dX12_windIn_8 ?_
  rintro _ m2 ⟨rfl, cb⟩
  have c2 := c1.tr (Mh.cb cb)
  rw [lw_c ok (by decide) (v' := cvS h) (fun i hi => by rw [e1, cp_in hi])]
  refine go_c1 ?_
  refine go_istore_n (q := 2) (i := 2) rfl dX12_windIn_11 (nle rfl) (nle rfl) ?_
  refine go_iload_n (q := 2) (i := 2) rfl rfl dX12_windIn_12 ?_
  refine go_if_ge (tgt := 20) dX12_windIn_13 (by decide) (fun h13 => ?_) (fun h13 => ?_)
  · skip
    refine go_iload_n (q := 2) (i := 2) rfl rfl dX12_windIn_20 ?_
    refine go_iconst (v := nI 5) (by decide) dX12_windIn_21 ?_
    refine go_irem (by decide) dX12_windIn_22 ?_
    refine go_iret rfl ⟨Nat.zero_le _, Nat.zero_le _⟩ dX12_windIn_23 ?_
    refine ⟨?_, c2, by rw [cb.1.at (by decide), e16]⟩
    unfold wM
    first | rw [if_pos (by assumption)] | rw [if_neg (by assumption)]
  · skip
    refine go_iconst (v := nI 0) (by decide) dX12_windIn_16 ?_
    refine go_goto (tgt := 23) dX12_windIn_17 (by decide) ?_
    refine go_iret rfl ⟨Nat.zero_le _, Nat.zero_le _⟩ dX12_windIn_23 ?_
    refine ⟨?_, c2, by rw [cb.1.at (by decide), e16]⟩
    unfold wM
    first | rw [if_pos (by assumption)] | rw [if_neg (by assumption)]
/-- how much of a cell goes or thins, of the reference's row -/
def tM (P : Pl) (e r : Nat → Int32) (k c : Nat) : Int32 := hlS (P.lw k (e5 e (r c) (nI (c % 8)) (nI (c / 8)) (r (40 + c)))) (nI 0) (r c)
set_option maxRecDepth 100000 in
set_option maxHeartbeats 4000000 in
theorem ex_cellTells {m : Me} {P : Pl} {lv : Nat} (hx : Wf12 m.1 (gR m)) (hm : MdC m P lv) {k x y : Nat} {b : Int32} (ok : PlOk P) (hk : k = 1 ∨ k = 2) (hx8 : x < 8) (hy5 : y < 5) : Ev mX12_cellTells [.ref 274, .int (nI k), .int (nI x), .int (nI y), .int b] m (fun r m' => r = some (.int (tM P (eW (gI m 316 104) b) (gI m 316) k (8 * y + x))) ∧ Mh m m' ∧ gI m' 316 = gI m 316 ∧ gI m' 317 = gI m 317) := by
  refine ⟨plmX12_cellTells, nle rfl, ?_⟩
  have hlv := hm.lv
  have hx0 := hx
  have hm0 := hm
  refine go_aload_n (q := 0) (i := 0) rfl rfl dX12_cellTells_0 ?_
  refine go_getR lf12_143 rfl hx.o hx.r59 dX12_cellTells_1 ?_
  refine go_bipush (v := nI 8) (by decide) dX12_cellTells_4 ?_
  refine go_iload_n (q := 3) (i := 3) rfl rfl dX12_cellTells_6 ?_
  refine gn_mul dX12_cellTells_7 ?_
  refine go_iload_n (q := 2) (i := 2) rfl rfl dX12_cellTells_8 ?_
  refine gn_add dX12_cellTells_9 ?_
  refine go_iald (j := ((8 * y) + x)) hx.i59 (by omega) (by first | decide | omega) rfl dX12_cellTells_10 ?_
  refine go_istore (i := 5) dX12_cellTells_11 (nle rfl) (nle rfl) ?_
  have hc1 : (8 * y + x) % 8 = x := by omega
  have hc2 : (8 * y + x) / 8 = y := by omega
  generalize hc : 8 * y + x = c at *
  have hc40 : c < 40 := by omega
  refine go_aload_n (q := 0) (i := 0) rfl rfl dX12_cellTells_13 ?_
  refine go_aload_n (q := 0) (i := 0) rfl rfl dX12_cellTells_14 ?_
  refine go_getR lf12_143 rfl hx.o hx.r59 dX12_cellTells_15 ?_
  refine go_bipush (v := nI 104) (by decide) dX12_cellTells_18 ?_
  refine go_iald (j := 104) hx.i59 (by omega) (by first | decide | omega) rfl dX12_cellTells_20 ?_
  refine go_callV okmX12_looks lmX12_378 ⟨nle rfl, nle rfl⟩ hx.o ⟨by decide, rfl⟩ (ex_looks hx) npmX12_looks rfl (nle rfl) ⟨nle rfl, nle rfl⟩ dX12_cellTells_21 ?_
  rintro _ m1 ⟨rfl, h1⟩
  have c1 : Mh m m1 := Mh.of (by rw [h1]; exact Ch.I (Or.inl rfl))
  have e1 : gI m1 313 = cp 9 (cvS (gI m 316 104)) (gI m 313) := by rw [h1, gI_s]
  have e16 : gI m1 316 = gI m 316 := by rw [h1]; exact gI_n (by decide)
  have hx := c1.1.wf hx
  have hm := c1.1.md hm
  refine go_c0 ?_
  refine go_aload_n (q := 0) (i := 0) rfl rfl dX12_cellTells_24 ?_
  refine go_getR lf12_134 rfl hx.o hx.r55 dX12_cellTells_25 ?_
  refine go_iconst (v := nI 0) (by decide) dX12_cellTells_28 ?_
  refine go_iload (i := 5) rfl dX12_cellTells_29 ?_
  refine go_iast (j := 0) hx.i55 (by omega) (by first | decide | omega) rfl dX12_cellTells_31 ?_
  refine go_aload_n (q := 0) (i := 0) rfl rfl dX12_cellTells_32 ?_
  refine go_getR lf12_134 rfl hx.o hx.r55 dX12_cellTells_33 ?_
  refine go_iconst (v := nI 3) (by decide) dX12_cellTells_36 ?_
  refine go_iload_n (q := 2) (i := 2) rfl rfl dX12_cellTells_37 ?_
  refine go_iast (j := 3) hx.i55 (by omega) (by first | decide | omega) rfl dX12_cellTells_38 ?_
  rw [sI_sI, gI_s]
  refine go_aload_n (q := 0) (i := 0) rfl rfl dX12_cellTells_39 ?_
  refine go_getR lf12_134 rfl hx.o hx.r55 dX12_cellTells_40 ?_
  refine go_iconst (v := nI 4) (by decide) dX12_cellTells_43 ?_
  refine go_iload_n (q := 3) (i := 3) rfl rfl dX12_cellTells_44 ?_
  refine go_iast (j := 4) hx.i55 (by omega) (by first | decide | omega) rfl dX12_cellTells_45 ?_
  rw [sI_sI, gI_s]
  refine go_aload_n (q := 0) (i := 0) rfl rfl dX12_cellTells_46 ?_
  refine go_getR lf12_134 rfl hx.o hx.r55 dX12_cellTells_47 ?_
  refine go_iconst (v := nI 5) (by decide) dX12_cellTells_50 ?_
  refine go_aload_n (q := 0) (i := 0) rfl rfl dX12_cellTells_51 ?_
  refine go_getR lf12_143 rfl hx.o hx.r59 dX12_cellTells_52 ?_
  refine go_bipush (v := nI 40) (by decide) dX12_cellTells_55 ?_
  refine go_bipush (v := nI 8) (by decide) dX12_cellTells_57 ?_
  refine go_iload_n (q := 3) (i := 3) rfl rfl dX12_cellTells_59 ?_
  refine gn_mul dX12_cellTells_60 ?_
  refine gn_add dX12_cellTells_61 ?_
  refine go_iload_n (q := 2) (i := 2) rfl rfl dX12_cellTells_62 ?_
  refine gn_add dX12_cellTells_63 ?_
  refine go_iald (j := ((40 + (8 * y)) + x)) hx.i59 (by omega) (by first | decide | omega) rfl dX12_cellTells_64 ?_
  rw [gI_n (show 316 ≠ 313 by decide), e16, show 40 + 8 * y + x = 40 + c by omega]
  refine go_iast (j := 5) hx.i55 (by omega) (by first | decide | omega) rfl dX12_cellTells_65 ?_
  rw [sI_sI, gI_s]
  refine go_aload_n (q := 0) (i := 0) rfl rfl dX12_cellTells_66 ?_
  refine go_getR lf12_134 rfl hx.o hx.r55 dX12_cellTells_67 ?_
  refine go_bipush (v := nI 8) (by decide) dX12_cellTells_70 ?_
  refine go_iload (i := 4) rfl dX12_cellTells_72 ?_
  refine go_iast (j := 8) hx.i55 (by omega) (by first | decide | omega) rfl dX12_cellTells_74 ?_
  rw [sI_sI, gI_s]
  generalize hmA : sI m1 313 _ = mA
  have eV : ∀ i, i < 9 → gI mA 313 i = (e5 (eW (gI m 316 104) b) (gI m 316 c) (nI (c % 8)) (nI (c / 8)) (gI m 316 (40 + c))) i := by
    intro i hi
    rw [← hmA, gI_s, e1]
    unfold upd e5 eW
    by_cases q8 : i = 8
    · subst q8; simp
    by_cases q5 : i = 5
    · subst q5; simp
    by_cases q4 : i = 4
    · subst q4; simp [hc2]
    by_cases q3 : i = 3
    · subst q3; simp [hc1]
    by_cases q0 : i = 0
    · subst q0; simp
    simp only [q8, q5, q4, q3, q0, if_false]
    exact cp_in hi
  have cA : Mh m mA := c1.tr (Mh.of (by rw [← hmA]; exact Ch.I (Or.inl rfl)))
  have eA : gI mA 316 = gI m 316 := by rw [← hmA, gI_n (by decide), e16]
  have hx := cA.1.wf hx0
  have hm := cA.1.md hm0
  have hk4 : k < 4 := by omega
  refine go_aload_n (q := 0) (i := 0) rfl rfl dX12_cellTells_75 ?_
  refine go_iload_n (q := 1) (i := 1) rfl rfl dX12_cellTells_76 ?_
  refine go_iload_n (q := 1) (i := 1) rfl rfl dX12_cellTells_77 ?_
  refine go_iconst (v := nI 1) (by decide) dX12_cellTells_78 ?_
  refine gn_ne (by omega) (by omega) (tgt := 89) dX12_cellTells_79 (by decide) (fun h79 => ?_) (fun h79 => ?_)
  · skip
    have hpl : nI 1 = dfl k (gI mA 313) := by
      unfold dfl; rw [if_neg (by omega), if_neg (by omega), if_pos (by omega)]
    refine go_iconst (v := nI 1) (by decide) dX12_cellTells_89 ?_
    refine go_callV okmX12_lawTells lmX12_381 ⟨nle rfl, nle rfl⟩ hx.o ⟨by decide, rfl⟩ (ex_lawTells hx hm.li hlv hk4 hm.lw hpl) npmX12_lawTells rfl (nle rfl) ⟨nle rfl, nle rfl⟩ dX12_cellTells_90 ?_
    rintro _ m3 ⟨rfl, cb⟩
    have c3 := cA.tr (Mh.cb cb)
    rw [lw_c ok hk4 eV]
    refine go_c1 ?_
    refine go_iconst (v := nI 0) (by decide) dX12_cellTells_93 ?_
    refine go_iload (i := 5) rfl dX12_cellTells_94 ?_
    refine go_callS okmX12_held lmX12_384 ⟨nle rfl, nle rfl⟩ (ex_held) npmX12_held rfl (nle rfl) ⟨nle rfl, nle rfl⟩ dX12_cellTells_96 ?_
    rintro _ mz ⟨rfl, hz⟩
    subst mz
    refine go_c1 ?_
    refine go_iret rfl ⟨Nat.zero_le _, Nat.zero_le _⟩ dX12_cellTells_99 ?_
    refine ⟨?_, c3, by rw [cb.1.at (by decide), eA], by rw [cb.1.at (by decide), ← hmA, gI_n (by decide), h1, gI_n (by decide)]⟩
    unfold tM
    rfl
  · skip
    have hpl : gI m 316 c / nI 4 = dfl k (gI mA 313) := by
      unfold dfl; rw [if_neg (by omega), if_pos (by omega), eV 0 (by decide)]; rfl
    refine go_iload (i := 5) rfl dX12_cellTells_82 ?_
    refine go_iconst (v := nI 4) (by decide) dX12_cellTells_84 ?_
    refine go_idiv (by decide) dX12_cellTells_85 ?_
    refine go_goto (tgt := 90) dX12_cellTells_86 (by decide) ?_
    refine go_callV okmX12_lawTells lmX12_381 ⟨nle rfl, nle rfl⟩ hx.o ⟨by decide, rfl⟩ (ex_lawTells hx hm.li hlv hk4 hm.lw hpl) npmX12_lawTells rfl (nle rfl) ⟨nle rfl, nle rfl⟩ dX12_cellTells_90 ?_
    rintro _ m3 ⟨rfl, cb⟩
    have c3 := cA.tr (Mh.cb cb)
    rw [lw_c ok hk4 eV]
    refine go_c1 ?_
    refine go_iconst (v := nI 0) (by decide) dX12_cellTells_93 ?_
    refine go_iload (i := 5) rfl dX12_cellTells_94 ?_
    refine go_callS okmX12_held lmX12_384 ⟨nle rfl, nle rfl⟩ (ex_held) npmX12_held rfl (nle rfl) ⟨nle rfl, nle rfl⟩ dX12_cellTells_96 ?_
    rintro _ mz ⟨rfl, hz⟩
    subst mz
    refine go_c1 ?_
    refine go_iret rfl ⟨Nat.zero_le _, Nat.zero_le _⟩ dX12_cellTells_99 ?_
    refine ⟨?_, c3, by rw [cb.1.at (by decide), eA], by rw [cb.1.at (by decide), ← hmA, gI_n (by decide), h1, gI_n (by decide)]⟩
    unfold tM
    rfl
