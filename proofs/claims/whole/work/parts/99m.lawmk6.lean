/-- the tokens, as the drafter reads them -/
def TkX (m : Me) (B : Nat → Nat) (n z : Nat) : Prop := n ≤ 2000 ∧ z ≤ 401 ∧ gI m 3 5 = nI n ∧ TkS m B n z
theorem TkX.keep {m m' : Me} {B : Nat → Nat} {n z : Nat} (h : TkX m B n z) (a : gI m' 3 4 = gI m 3 4) (b : gI m' 3 5 = gI m 3 5) (c : gI m' 5 = gI m 5) (d : gI m' 7 = gI m 7) (e : gJ m' 6 = gJ m 6) : TkX m' B n z := ⟨h.1, h.2.1, by rw [b]; exact h.2.2.1, by unfold TkS; rw [a, c, d, e]; exact h.2.2.2⟩
theorem ev_tk {m : Me} {B : Nat → Nat} {n z a : Nat} (h : TkX m B n z) (hw : Wf10 m.1 (gR m) 3) (ha : a ≤ 2000) : Ev mX10_kindAt [.ref 3, .int (nI a)] m (fun o m' => o = some (.int (nI (kG B n z a))) ∧ m' = m) := by
  refine (ev_kindAt hw h.2.2.2.1 h.2.1 ha).mono ?_
  rintro o m' ⟨rfl, rfl⟩
  refine ⟨?_, rfl⟩
  unfold kG
  by_cases g : a < z
  · rw [if_pos g, if_pos g, (h.2.2.2.2 a g).1]
  · rw [if_neg g, if_neg g]
theorem ev_tp {m : Me} {B : Nat → Nat} {n z a : Nat} (h : TkX m B n z) (hw : Wf10 m.1 (gR m) 3) (ha : a ≤ 2000) : Ev mX10_placeAt [.ref 3, .int (nI a)] m (fun o m' => o = some (.int (nI (pG B n z a))) ∧ m' = m) := by
  refine (ev_placeAt hw h.2.2.2.1 h.2.1 ha).mono ?_
  rintro o m' ⟨rfl, rfl⟩
  refine ⟨?_, rfl⟩
  unfold pG
  by_cases g : a < z
  · rw [if_pos g, if_pos g, (h.2.2.2.2 a g).2.1]
  · rw [if_neg g, if_neg g, h.2.2.1]
/-- a token's number -/
theorem ev_tv {m : Me} {B : Nat → Nat} {n z a : Nat} (h : TkX m B n z) (hw : Wf10 m.1 (gR m) 3) (ha : a ≤ 2000) : Ev mX10_valueAt [.ref 3, .int (nI a)] m (fun o m' => (∃ x, o = some (.long x) ∧ (kG B n z a = 24 → x = lN (vG B n z a)) ∧ (kG B n z a = 23 → x = lN (nkC (tL B n a)))) ∧ m' = m) := by
  refine (ev_valueAt hw h.2.2.2.1 h.2.1 ha).mono ?_
  rintro o m' ⟨rfl, rfl⟩
  refine ⟨⟨_, rfl, ?_, ?_⟩, rfl⟩
  · unfold kG vG
    by_cases g : a < z
    · rw [if_pos g, if_pos g, if_pos g]; exact (h.2.2.2.2 a g).2.2.2
    · rw [if_neg g, if_neg g]; intro q; cases q
  · unfold kG
    by_cases g : a < z
    · rw [if_pos g, if_pos g]; exact (h.2.2.2.2 a g).2.2.1
    · rw [if_neg g, if_neg g]; intro q; cases q
theorem eTok_v {k v v' : Nat} {s : List Nat × List (Nat × Nat)} (h : k = 24 → v = v') : eTok k v s = eTok k v' s := by
  unfold eTok
  by_cases a : k = 24
  · rw [if_pos a, if_pos a, h a]
  · rw [if_neg a, if_neg a]
theorem eMk_v {k v v' : Nat} {s : List Nat × List (Nat × Nat)} (h : k = 24 → v = v') : eMk k v s = eMk k v' s := by
  unfold eMk
  rw [eTok_v h]
theorem FL.tk {la : Nat} {m m' : Me} {B : Nat → Nat} {n z : Nat} (c : FL la m m') (hla : 226 ≤ la) (h : TkX m B n z) : TkX m' B n z := h.keep (by rw [c.at (by omega)]) (by rw [c.at (by omega)]) (c.at (by omega)) (c.at (by omega)) (by rw [c.aj (by exact id)])
theorem FL.w3 {la : Nat} {m m' : Me} (c : FL la m m') (h : Wf10 m.1 (gR m) 3) : Wf10 m'.1 (gR m') 3 := c.to (F := fun q s => Wf10 q s 3) h
/-- what one token adds -/
theorem eTok_le {k v : Nat} (W : List Nat) (D : List (Nat × Nat)) (hk : k ≤ 35) (hW : ∀ j ∈ W, j ≤ 35) : (eTok k v (W, D)).1.length + (eTok k v (W, D)).2.length ≤ W.length + D.length + 1 ∧ ∀ j ∈ (eTok k v (W, D)).1, j ≤ 35 := by
  unfold eTok
  by_cases a : k = 24
  · rw [if_pos a, List.length_append]; exact ⟨by show W.length + (D.length + 1) ≤ _; omega, hW⟩
  rw [if_neg a]
  by_cases b : 14 ≤ k ∧ k ≤ 22
  · rw [if_pos b, List.length_append]; exact ⟨by show W.length + (D.length + 1) ≤ _; omega, hW⟩
  rw [if_neg b]
  by_cases c : k = 32
  · rw [if_pos c]
    exact ⟨by show W.length + 1 + D.length ≤ _; omega, fun j hj => by
      rcases List.mem_cons.mp hj with e | e
      · omega
      · exact hW j e⟩
  rw [if_neg c]
  by_cases d : k = 33
  · rw [if_pos d]
    have h := eOut_le (r := 1) W D
    refine ⟨?_, fun j hj => hW j (h.2.2 j (List.mem_of_mem_tail hj))⟩
    show (eOut 1 W D).1.tail.length + (eOut 1 W D).2.length ≤ _
    rw [List.length_tail]
    omega
  rw [if_neg d]
  by_cases e : 0 < rnk k
  · rw [if_pos e]
    have h := eOut_le (r := rnk k) W D
    refine ⟨?_, fun j hj => ?_⟩
    · show (eOut (rnk k) W D).1.length + 1 + (eOut (rnk k) W D).2.length ≤ _
      omega
    · rcases List.mem_cons.mp hj with q | q
      · omega
      · exact hW j (h.2.2 j q)
  · rw [if_neg e]
    exact ⟨by show W.length + D.length ≤ _; omega, hW⟩
set_option maxRecDepth 100000 in
set_option maxHeartbeats 4000000 in
theorem mk_tok {m : Me} {B : Nat → Nat} {n z la f w a : Nat} {W : List Nat} {D : List (Nat × Nat)} {x4 : Int32} {x6 : Option Value} {Q : Option Value → Me → Prop} (hT : TkX m B n z) (hw : Wf10 m.1 (gR m) 3) (hl : Wf5 m.1 (gR m) la) (h : LC m la W D) (ha : a < 400) (hW : W.length < 24) (hkW : ∀ j ∈ W, j ≤ 35) (hD : D.length + W.length < 419) (hk : kG B n z a ≠ 25 ∧ kG B n z a ≠ 12 ∧ kG B n z a ≠ 13) (hV : kG B n z a = 24 → vG B n z a < 65536) (k : ∀ (m1 : Me) (y6 : Option Value), LC m1 la (eMk (kG B n z a) (vG B n z a) (W, D)).1 (eMk (kG B n z a) (vG B n z a) (W, D)).2 → FL la m m1 → Go mX5_make Q 16 [some (.ref la), some (.ref 3), some (.int (nI f)), some (.int (nI w)), some (.int x4), some (.int (nI (a + 1))), y6] [] m1 0 0) : Go mX5_make Q 16 [some (.ref la), some (.ref 3), some (.int (nI f)), some (.int (nI w)), some (.int x4), some (.int (nI a)), x6] [] m 0 0 := by
  have hk35 : kG B n z a ≤ 35 := kG_le
  refine go_iload (i := 5) rfl dX5_make_16 ?_
  refine go_sipush (v := nI 400) (by decide) dX5_make_18 ?_
  refine gn_ge (by omega) (by omega) (tgt := 122) dX5_make_21 (by decide) (fun h21 => by exfalso; omega) (fun h21 => ?_)
  refine go_aload_n (q := 1) (i := 1) rfl rfl dX5_make_24 ?_
  refine go_iload (i := 5) rfl dX5_make_25 ?_
  refine go_callV okmX10_kindAt lmX5_42 ⟨nle rfl, nle rfl⟩ hw.o ⟨by decide, rfl⟩ (ev_tk hT hw (by omega)) npmX10_kindAt rfl (nle rfl) ⟨nle rfl, nle rfl⟩ dX5_make_27 ?_
  rintro _ mz ⟨rfl, hz⟩
  subst mz
  refine go_c1 ?_
  refine go_bipush (v := nI 25) (by decide) dX5_make_30 ?_
  refine gn_eq (by omega) (by omega) (tgt := 122) dX5_make_32 (by decide) (fun h32 => by exfalso; omega) (fun h32 => ?_)
  refine go_aload_n (q := 1) (i := 1) rfl rfl dX5_make_35 ?_
  refine go_iload (i := 5) rfl dX5_make_36 ?_
  refine go_callV okmX10_kindAt lmX5_42 ⟨nle rfl, nle rfl⟩ hw.o ⟨by decide, rfl⟩ (ev_tk hT hw (by omega)) npmX10_kindAt rfl (nle rfl) ⟨nle rfl, nle rfl⟩ dX5_make_38 ?_
  rintro _ mz ⟨rfl, hz⟩
  subst mz
  refine go_c1 ?_
  refine go_istore (i := 6) dX5_make_41 (nle rfl) (nle rfl) ?_
  refine go_iload (i := 6) rfl dX5_make_43 ?_
  refine go_bipush (v := nI 12) (by decide) dX5_make_45 ?_
  refine gn_ne (by omega) (by omega) (tgt := 71) dX5_make_47 (by decide) (fun h47 => ?_) (fun h47 => by exfalso; omega)
  refine go_iload (i := 6) rfl dX5_make_71 ?_
  refine go_bipush (v := nI 13) (by decide) dX5_make_73 ?_
  refine gn_ne (by omega) (by omega) (tgt := 103) dX5_make_75 (by decide) (fun h75 => ?_) (fun h75 => by exfalso; omega)
  refine go_aload_n (q := 0) (i := 0) rfl rfl dX5_make_103 ?_
  refine go_iload (i := 6) rfl dX5_make_104 ?_
  refine go_aload_n (q := 1) (i := 1) rfl rfl dX5_make_106 ?_
  refine go_iload (i := 5) rfl dX5_make_107 ?_
  refine go_callV okmX10_valueAt lmX5_54 ⟨nle rfl, nle rfl⟩ hw.o ⟨by decide, rfl⟩ (ev_tv hT hw (by omega)) npmX10_valueAt rfl (nle rfl) ⟨nle rfl, nle rfl⟩ dX5_make_109 ?_
  rintro _ mz ⟨⟨x, rfl, hx1, hx2⟩, hz⟩
  subst mz
  refine go_c1 ?_
  refine go_l2i dX5_make_112 ?_
  obtain ⟨v, hv0, hv⟩ := wb_of32 x.toInt32
  rw [hv]
  have hvv : kG B n z a = 24 → v % 2 ^ 32 = vG B n z a % 2 ^ 32 := fun q => by
    rw [hx1 q, lN_i] at hv
    have := congrArg (fun y : Int32 => y.toBitVec.toNat) hv
    rw [pk_tn hv0] at this
    have h2 : (nI (vG B n z a)).toBitVec.toNat = vG B n z a % 2 ^ 32 := BitVec.toNat_ofNat _ _
    rw [h2] at this
    omega
  refine go_callV okmX5_makePart lmX5_58 ⟨nle rfl, nle rfl⟩ hl.o ⟨by decide, rfl⟩ (ev_lpart hl h hk35 hW hkW (by omega)) npmX5_makePart rfl (nle rfl) ⟨nle rfl, nle rfl⟩ dX5_make_113 ?_
  rintro _ m1 ⟨rfl, h1, c1⟩
  rw [eMk_v (v' := vG B n z a) (fun q => by have h5 := hvv q; have h6 := hV q; omega)] at h1
  refine go_c0 ?_
  refine gn_inc (i := 5) (a := a) (q := 1) rfl dX5_make_116 (nle rfl) rfl ?_
  refine go_goto (tgt := 16) dX5_make_119 (by decide) ?_
  exact k m1 _ h1 c1
set_option maxRecDepth 100000 in
set_option maxHeartbeats 4000000 in
theorem mk_then {m : Me} {B : Nat → Nat} {n z la f w a : Nat} {W : List Nat} {D : List (Nat × Nat)} {x4 : Int32} {x6 : Option Value} {Q : Option Value → Me → Prop} (hT : TkX m B n z) (hw : Wf10 m.1 (gR m) 3) (hl : Wf5 m.1 (gR m) la) (h : LC m la W D) (ha : a < 400) (hW : W.length < 24) (hkW : ∀ j ∈ W, j ≤ 35) (hD : D.length + W.length < 419) (hk : kG B n z a = 12) (k : ∀ (m1 : Me) (y6 : Option Value), LC m1 la (eOut 1 W D).1 ((eOut 1 W D).2 ++ [(6, 0)]) → FL la m m1 → Go mX5_make Q 16 [some (.ref la), some (.ref 3), some (.int (nI f)), some (.int (nI w)), some (.int (nI (eOut 1 W D).2.length)), some (.int (nI (a + 1))), y6] [] m1 0 0) : Go mX5_make Q 16 [some (.ref la), some (.ref 3), some (.int (nI f)), some (.int (nI w)), some (.int x4), some (.int (nI a)), x6] [] m 0 0 := by
  have hk35 : kG B n z a ≤ 35 := kG_le
  refine go_iload (i := 5) rfl dX5_make_16 ?_
  refine go_sipush (v := nI 400) (by decide) dX5_make_18 ?_
  refine gn_ge (by omega) (by omega) (tgt := 122) dX5_make_21 (by decide) (fun h21 => by exfalso; omega) (fun h21 => ?_)
  refine go_aload_n (q := 1) (i := 1) rfl rfl dX5_make_24 ?_
  refine go_iload (i := 5) rfl dX5_make_25 ?_
  refine go_callV okmX10_kindAt lmX5_42 ⟨nle rfl, nle rfl⟩ hw.o ⟨by decide, rfl⟩ (ev_tk hT hw (by omega)) npmX10_kindAt rfl (nle rfl) ⟨nle rfl, nle rfl⟩ dX5_make_27 ?_
  rintro _ mz ⟨rfl, hz⟩
  subst mz
  rw [hk]
  refine go_c1 ?_
  refine go_bipush (v := nI 25) (by decide) dX5_make_30 ?_
  refine gn_eq (by omega) (by omega) (tgt := 122) dX5_make_32 (by decide) (fun h32 => by exfalso; omega) (fun h32 => ?_)
  refine go_aload_n (q := 1) (i := 1) rfl rfl dX5_make_35 ?_
  refine go_iload (i := 5) rfl dX5_make_36 ?_
  refine go_callV okmX10_kindAt lmX5_42 ⟨nle rfl, nle rfl⟩ hw.o ⟨by decide, rfl⟩ (ev_tk hT hw (by omega)) npmX10_kindAt rfl (nle rfl) ⟨nle rfl, nle rfl⟩ dX5_make_38 ?_
  rintro _ mz ⟨rfl, hz⟩
  subst mz
  rw [hk]
  refine go_c1 ?_
  refine go_istore (i := 6) dX5_make_41 (nle rfl) (nle rfl) ?_
  refine go_iload (i := 6) rfl dX5_make_43 ?_
  refine go_bipush (v := nI 12) (by decide) dX5_make_45 ?_
  refine gn_ne (by omega) (by omega) (tgt := 71) dX5_make_47 (by decide) (fun h47 => by exfalso; omega) (fun h47 => ?_)
  refine go_aload_n (q := 0) (i := 0) rfl rfl dX5_make_50 ?_
  refine go_iconst (v := nI 1) (by decide) dX5_make_51 ?_
  refine go_callV okmX5_addWaiting lmX5_48 ⟨nle rfl, nle rfl⟩ hl.o ⟨by decide, rfl⟩ (ev_laddW (r := 1) hl h (by decide) (by omega) hkW (by omega)) npmX5_addWaiting rfl (nle rfl) ⟨nle rfl, nle rfl⟩ dX5_make_52 ?_
  rintro _ m1 ⟨rfl, h1, c1⟩
  have hl0 := hl
  have hl := c1.wf hl
  have hq := eOut_le (r := 1) W D
  refine go_c0 ?_
  refine go_aload_n (q := 0) (i := 0) rfl rfl dX5_make_55 ?_
  refine go_getI lf5_27 rfl hl.o dX5_make_56 ?_
  rw [h1.1]
  refine go_istore (i := 4) dX5_make_59 (nle rfl) (nle rfl) ?_
  refine go_aload_n (q := 0) (i := 0) rfl rfl dX5_make_61 ?_
  refine go_bipush (v := nI 6) (by decide) dX5_make_62 ?_
  refine go_iconst (v := nI 0) (by decide) dX5_make_64 ?_
  refine go_callV okmX5_add lmX5_35 ⟨nle rfl, nle rfl⟩ hl.o ⟨by decide, rfl⟩ (ev_ladd hl h1 (by omega)) npmX5_add rfl (nle rfl) ⟨nle rfl, nle rfl⟩ dX5_make_65 ?_
  rintro _ m2 ⟨rfl, h2, c2⟩
  refine go_c0 ?_
  refine go_goto (tgt := 116) dX5_make_68 (by decide) ?_
  refine gn_inc (i := 5) (a := a) (q := 1) rfl dX5_make_116 (nle rfl) rfl ?_
  refine go_goto (tgt := 16) dX5_make_119 (by decide) ?_
  exact k m2 _ h2 (c1.tr c2)
set_option maxRecDepth 100000 in
set_option maxHeartbeats 4000000 in
theorem mk_else {m : Me} {B : Nat → Nat} {n z la f w a : Nat} {W : List Nat} {D : List (Nat × Nat)} {x4 : Int32} {x6 : Option Value} {Q : Option Value → Me → Prop} (hT : TkX m B n z) (hw : Wf10 m.1 (gR m) 3) (hl : Wf5 m.1 (gR m) la) (h : LC m la W D) (ha : a < 400) (hW : W.length < 24) (hkW : ∀ j ∈ W, j ≤ 35) (hD : D.length + W.length < 419) (hk : kG B n z a = 13) {j : Nat} (hx4 : x4 = nI j) (hj : j < (eOut 1 W D).2.length) (k : ∀ (m1 : Me) (y6 : Option Value), LC m1 la (eOut 1 W D).1 (((eOut 1 W D).2 ++ [(7, 0)]).set j (6, (eOut 1 W D).2.length + 1)) → FL la m m1 → Go mX5_make Q 16 [some (.ref la), some (.ref 3), some (.int (nI f)), some (.int (nI w)), some (.int x4), some (.int (nI (a + 1))), y6] [] m1 0 0) : Go mX5_make Q 16 [some (.ref la), some (.ref 3), some (.int (nI f)), some (.int (nI w)), some (.int x4), some (.int (nI a)), x6] [] m 0 0 := by
  have hk35 : kG B n z a ≤ 35 := kG_le
  refine go_iload (i := 5) rfl dX5_make_16 ?_
  refine go_sipush (v := nI 400) (by decide) dX5_make_18 ?_
  refine gn_ge (by omega) (by omega) (tgt := 122) dX5_make_21 (by decide) (fun h21 => by exfalso; omega) (fun h21 => ?_)
  refine go_aload_n (q := 1) (i := 1) rfl rfl dX5_make_24 ?_
  refine go_iload (i := 5) rfl dX5_make_25 ?_
  refine go_callV okmX10_kindAt lmX5_42 ⟨nle rfl, nle rfl⟩ hw.o ⟨by decide, rfl⟩ (ev_tk hT hw (by omega)) npmX10_kindAt rfl (nle rfl) ⟨nle rfl, nle rfl⟩ dX5_make_27 ?_
  rintro _ mz ⟨rfl, hz⟩
  subst mz
  rw [hk]
  refine go_c1 ?_
  refine go_bipush (v := nI 25) (by decide) dX5_make_30 ?_
  refine gn_eq (by omega) (by omega) (tgt := 122) dX5_make_32 (by decide) (fun h32 => by exfalso; omega) (fun h32 => ?_)
  refine go_aload_n (q := 1) (i := 1) rfl rfl dX5_make_35 ?_
  refine go_iload (i := 5) rfl dX5_make_36 ?_
  refine go_callV okmX10_kindAt lmX5_42 ⟨nle rfl, nle rfl⟩ hw.o ⟨by decide, rfl⟩ (ev_tk hT hw (by omega)) npmX10_kindAt rfl (nle rfl) ⟨nle rfl, nle rfl⟩ dX5_make_38 ?_
  rintro _ mz ⟨rfl, hz⟩
  subst mz
  rw [hk]
  refine go_c1 ?_
  refine go_istore (i := 6) dX5_make_41 (nle rfl) (nle rfl) ?_
  refine go_iload (i := 6) rfl dX5_make_43 ?_
  refine go_bipush (v := nI 12) (by decide) dX5_make_45 ?_
  refine gn_ne (by omega) (by omega) (tgt := 71) dX5_make_47 (by decide) (fun h47 => ?_) (fun h47 => by exfalso; omega)
  refine go_iload (i := 6) rfl dX5_make_71 ?_
  refine go_bipush (v := nI 13) (by decide) dX5_make_73 ?_
  refine gn_ne (by omega) (by omega) (tgt := 103) dX5_make_75 (by decide) (fun h75 => by exfalso; omega) (fun h75 => ?_)
  refine go_aload_n (q := 0) (i := 0) rfl rfl dX5_make_78 ?_
  refine go_iconst (v := nI 1) (by decide) dX5_make_79 ?_
  refine go_callV okmX5_addWaiting lmX5_48 ⟨nle rfl, nle rfl⟩ hl.o ⟨by decide, rfl⟩ (ev_laddW (r := 1) hl h (by decide) (by omega) hkW (by omega)) npmX5_addWaiting rfl (nle rfl) ⟨nle rfl, nle rfl⟩ dX5_make_80 ?_
  rintro _ m1 ⟨rfl, h1, c1⟩
  have hl0 := hl
  have hl := c1.wf hl
  have hq := eOut_le (r := 1) W D
  refine go_c0 ?_
  refine go_aload_n (q := 0) (i := 0) rfl rfl dX5_make_83 ?_
  refine go_bipush (v := nI 7) (by decide) dX5_make_84 ?_
  refine go_iconst (v := nI 0) (by decide) dX5_make_86 ?_
  refine go_callV okmX5_add lmX5_35 ⟨nle rfl, nle rfl⟩ hl.o ⟨by decide, rfl⟩ (ev_ladd hl h1 (by omega)) npmX5_add rfl (nle rfl) ⟨nle rfl, nle rfl⟩ dX5_make_87 ?_
  rintro _ m2 ⟨rfl, h2, c2⟩
  have hl := c2.wf hl
  refine go_c0 ?_
  refine go_aload_n (q := 0) (i := 0) rfl rfl dX5_make_90 ?_
  refine go_iload (i := 4) rfl dX5_make_91 ?_
  rw [hx4]
  refine go_aload_n (q := 0) (i := 0) rfl rfl dX5_make_93 ?_
  refine go_getI lf5_27 rfl hl.o dX5_make_94 ?_
  rw [show gI m2 la 5 = nI ((eOut 1 W D).2.length + 1) from h2.1.trans (by rw [List.length_append]; rfl)]
  refine go_callV okmX5_aim lmX5_51 ⟨nle rfl, nle rfl⟩ hl.o ⟨by decide, rfl⟩ (ev_laim hl h2 (j := j) (by rw [List.length_append]; omega) (by rw [List.length_append]; show _ + 1 ≤ 420; omega)) npmX5_aim rfl (nle rfl) ⟨nle rfl, nle rfl⟩ dX5_make_97 ?_
  rintro _ m3 ⟨rfl, h3, c3⟩
  refine go_c0 ?_
  refine go_goto (tgt := 116) dX5_make_100 (by decide) ?_
  refine gn_inc (i := 5) (a := a) (q := 1) rfl dX5_make_116 (nle rfl) rfl ?_
  refine go_goto (tgt := 16) dX5_make_119 (by decide) ?_
  rw [hx4] at k
  exact k m3 _ h3 ((c1.tr c2).tr c3)
set_option maxRecDepth 100000 in
set_option maxHeartbeats 4000000 in
theorem mk_end {m : Me} {B : Nat → Nat} {n z la f w a : Nat} {W : List Nat} {D : List (Nat × Nat)} {x4 : Int32} {x6 : Option Value} {Q : Option Value → Me → Prop} (hT : TkX m B n z) (hw : Wf10 m.1 (gR m) 3) (hl : Wf5 m.1 (gR m) la) (h : LC m la W D) (ha : a < 400) (hW : W.length < 24) (hkW : ∀ j ∈ W, j ≤ 35) (hD : D.length + W.length < 419) (hk : kG B n z a = 25) (k : ∀ m1 : Me, LC m1 la (eOut 1 W D).1 ((eOut 1 W D).2 ++ [(7, 0)]) → FL la m m1 → Q none m1) : Go mX5_make Q 16 [some (.ref la), some (.ref 3), some (.int (nI f)), some (.int (nI w)), some (.int x4), some (.int (nI a)), x6] [] m 0 0 := by
  have hk35 : kG B n z a ≤ 35 := kG_le
  refine go_iload (i := 5) rfl dX5_make_16 ?_
  refine go_sipush (v := nI 400) (by decide) dX5_make_18 ?_
  refine gn_ge (by omega) (by omega) (tgt := 122) dX5_make_21 (by decide) (fun h21 => by exfalso; omega) (fun h21 => ?_)
  refine go_aload_n (q := 1) (i := 1) rfl rfl dX5_make_24 ?_
  refine go_iload (i := 5) rfl dX5_make_25 ?_
  refine go_callV okmX10_kindAt lmX5_42 ⟨nle rfl, nle rfl⟩ hw.o ⟨by decide, rfl⟩ (ev_tk hT hw (by omega)) npmX10_kindAt rfl (nle rfl) ⟨nle rfl, nle rfl⟩ dX5_make_27 ?_
  rintro _ mz ⟨rfl, hz⟩
  subst mz
  rw [hk]
  refine go_c1 ?_
  refine go_bipush (v := nI 25) (by decide) dX5_make_30 ?_
  refine gn_eq (by omega) (by omega) (tgt := 122) dX5_make_32 (by decide) (fun h32 => ?_) (fun h32 => by exfalso; omega)
  refine go_aload_n (q := 0) (i := 0) rfl rfl dX5_make_122 ?_
  refine go_iconst (v := nI 1) (by decide) dX5_make_123 ?_
  refine go_callV okmX5_addWaiting lmX5_48 ⟨nle rfl, nle rfl⟩ hl.o ⟨by decide, rfl⟩ (ev_laddW (r := 1) hl h (by decide) (by omega) hkW (by omega)) npmX5_addWaiting rfl (nle rfl) ⟨nle rfl, nle rfl⟩ dX5_make_124 ?_
  rintro _ m1 ⟨rfl, h1, c1⟩
  have hl0 := hl
  have hl := c1.wf hl
  have hq := eOut_le (r := 1) W D
  refine go_c0 ?_
  refine go_aload_n (q := 0) (i := 0) rfl rfl dX5_make_127 ?_
  refine go_bipush (v := nI 7) (by decide) dX5_make_128 ?_
  refine go_iconst (v := nI 0) (by decide) dX5_make_130 ?_
  refine go_callV okmX5_add lmX5_35 ⟨nle rfl, nle rfl⟩ hl.o ⟨by decide, rfl⟩ (ev_ladd hl h1 (by omega)) npmX5_add rfl (nle rfl) ⟨nle rfl, nle rfl⟩ dX5_make_131 ?_
  rintro _ m2 ⟨rfl, h2, c2⟩
  refine go_c0 ?_
  refine go_vret rfl ⟨Nat.zero_le _, Nat.zero_le _⟩ dX5_make_134 ?_
  exact k m2 h2 (c1.tr c2)
