def NpM (M : MD) (n : Nat) : Prop := (parseMethodDescriptor M.y.desc).map (fun d => d.parameters.length) = some n
def RmM (M' M : MD) : Prop := M'.fr + 1 ≤ M.fr ∧ 8 + (M'.ml + 11) + M'.lc ≤ M.lc
theorem cat_map (b : Bs) (S : List Value) : (S.map (cv b)).map (fun v => v.category) = S.map (fun v => v.category) := by
  rw [List.map_map]
  exact List.map_congr_left fun v _ => cv_cat b v
theorem good_ws {M M' : MD} (h : OkC M') : GoodIn (wsm M) (wsm M') := by
  intro w hw
  rcases List.mem_cons.mp hw with rfl | hw
  · exact ⟨List.mem_cons_of_mem _ h.1, good_of_word (List.mem_filter.mp h.1).2⟩
  · exact ⟨List.mem_cons_of_mem _ hw, good_of_word (List.mem_filter.mp hw).2⟩
section GOCALL
variable {M M' : MD} {Q Q' : Option Value → Me → Prop} {pc : Nat} {L : List (Option Value)} {S : List Value} {m : Me} {cc zz : Nat}
variable {D : va_G} {ty : Nat → ClassId} {b : Bs} {p : Program} {l : Launch} {e : Env} {s : State} {mm : MethodId} {args : Array Value} {below : List Frame} {meth : Method} {c : Code} {H : Heap} {locs : List Loc} {ls : Array Slot}
theorem go_after {aa : Array Value} {st : List Value} (C : Cx M D ty b p s mm args meth c) (hl : lv_has ls M.ml (lvl b L 0)) (hS : va_S (fun q => b.1 ≤ q) s.heap H locs)
    (hr : va_Run p l e (rom M) s mm args below meth c H locs cc zz M'.mc M'.ms (F0 mm pc ls st) (S.map (cv b)) (Qcc Q' D ty b aa) (fun q => b.1 ≤ q))
    (kk : ∀ r m', Q' r m' → Go M Q (pc + 3) L (r.toList ++ S) m' (cc + M'.mc) (zz + M'.ms)) : W p l e (rom M) s mm args below meth c H locs cc zz (MQ below (Qcc Q D ty b) args s M.mc M.ms (fun q => b.1 ≤ q)) (F0 mm pc ls st) := by
  intro T hT X
  obtain ⟨v, st₀, t, T', L1, h0, X', hL, e1, e2, ⟨⟨r, m', hv, hq, hH'⟩, hz, hk⟩, st⟩ := hr T hT X
  have hv' : v = r.map (cv b) := by injection hv
  subst hv'
  rw [h0] at hz hk
  have hS1 : va_S (fun q => b.1 ≤ q) s.heap T'.heap (locs ++ L1) := ⟨Nat.le_trans hS.1 (by rw [e1]; exact hz), fun q h1 h2 => by rw [e1, hk q (Nat.lt_of_lt_of_le h1 hS.1) h2]; exact hS.2.1 q h1 h2, fun q hq => by
      rcases List.mem_append.mp hq with h | h
      · exact hS.2.2 q h
      · exact hL q h⟩
  have hrs : (r.toList ++ S).map (cv b) = (r.map (cv b)).toList ++ S.map (cv b) := by cases r <;> rfl
  have key := kk r m' hq D ty b p l e s mm args below meth c C T'.heap (locs ++ L1) ls hl (by rw [e1]; exact hH') hS1
  rw [hrs] at key
  obtain ⟨t2, a1, b1⟩ := key T' rfl X'
  exact ⟨t2, st t2 a1, b1⟩
theorem pc_blind {as : List Value} : FrameBlind (va_Pc (as.map (cv b)) (fun U => Hd D ty b m U.heap ∧ Kn D ty b U)) := by
  intro a U g mk h
  obtain ⟨h1, h2, h3⟩ := h
  exact ⟨h1, h2, Kn.same (s := U) rfl rfl h3⟩
theorem pc_at {as : List Value} (C : Cx M D ty b p s mm args meth c) (hH : Hd D ty b m H) (hS : va_S (fun q => b.1 ≤ q) s.heap H locs) {U : State} (hU : U.heap = H) (hW : s.WarmedH U.vm) : va_Pc (as.map (cv b)) (fun U => Hd D ty b m U.heap ∧ Kn D ty b U) (as.map (cv b)).toArray U :=
  ⟨rfl, by rw [hU]; exact hH, Kn.to hW (fun a h1 h2 => by rw [hU]; exact hS.2.1 a h1 h2) C.2.2.2.2.2.2.2.2.1⟩
theorem cx_w {w : Cond} (C : Cx M D ty b p s mm args meth c) (h : w ∈ good_tbl) : w.before args s = true := C.2.2.2.2.2.1 _ (List.mem_cons_of_mem _ h)
theorem cx_n {w : Cond} (C : Cx M D ty b p s mm args meth c) (h : w ∈ nest_tbl) : va_Nw w s := C.2.2.2.2.2.2.2.2.1.2.1 _ h
theorem cx_fix (C : Cx M D ty b p s mm args meth c) : CallFix p mm c M.b M.ml s args (wsm M) M.y.cls := ⟨C.1, C.2.1, C.2.2.1, C.2.2.2.2.1, C.2.2.2.2.2.1⟩
theorem cx_callB {idx n : Nat} (C : Cx M D ty b p s mm args meth c) (ok : OkC M') (hn : NpM M' n) (hrm : RmM M' M) (lk : Cond.methodLink M.y.cls idx M'.y ∈ good_tbl) : CallB (rom M) s args M.y.cls idx M'.y M'.b M'.ml M'.rt (wsm M') (rom M') M'.mc M'.ms n :=
  ⟨rfl, rfl, hrm.1, hrm.2, pay_in C.2.2.2.2.2.1 (good_ws ok), List.mem_cons_self, cx_w C ok.1, cx_w C ok.2.1, ok.2.2, fun sig h => by
    have h2 := hn
    unfold NpM at h2
    rw [h] at h2
    exact (Option.some.inj h2).symm, cx_w C lk⟩
theorem cx_callN {idx n : Nat} {host : String} (C : Cx M D ty b p s mm args meth c) (ok : OkC M') (hn : NpM M' n) (hrm : RmM M' M) (lk : Cond.methodLinkNest M.y.cls idx M'.y host ∈ nest_tbl) : va_CN (rom M) s args M.y.cls idx M'.y host M'.b M'.ml M'.rt (wsm M') (rom M') M'.mc M'.ms n :=
  ⟨⟨rfl, rfl, hrm.1, hrm.2, pay_in C.2.2.2.2.2.1 (good_ws ok), List.mem_cons_self⟩, cx_w C ok.1, cx_w C ok.2.1, ok.2.2, fun sig h => by
    have h2 := hn
    unfold NpM at h2
    rw [h] at h2
    exact (Option.some.inj h2).symm, va_Nw.use rfl (cx_n C lk)⟩
theorem go_callV {a idx ci : Nat} {as St : List Value} (ok : OkV M') (lk : LkM M.y.cls idx M') (hrm : RmM M' M) (hs : Is m.1 a (0, ci)) (hci : ci < 13 ∧ clC ci = M'.y.cls) (hE : Ev M' (.ref a :: as) m Q') (hn : NpM M' as.length) (hst : St = as.reverse ++ .ref a :: S) (hcat : (S.map (fun v => v.category)).sum ≤ 8) (hcap : cc + M'.mc ≤ M.mc ∧ zz + M'.ms ≤ M.ms) (d : decode M.b pc = .ok (.invokevirtual idx, 3)) (kk : ∀ r m', Q' r m' → Go M Q (pc + 3) L (r.toList ++ S) m' (cc + M'.mc) (zz + M'.ms)) : Go M Q pc L St m cc zz := by
  intro D ty b p l e s mm args below meth c C H locs ls hl hH hS
  have ha := wo_at (b := b) (ty := ty) hs.2
  rw [ce_o hs.1] at ha
  have hrecv := va_recv C.2.2.2.2.2.2.2.2.1.1 hH.1 (cl_at hci.1) ha
  have hst2 : St.map (cv b) = (as.map (cv b)).reverse ++ .ref (b.1 + a) :: S.map (cv b) := by rw [hst, List.map_append, List.map_reverse]; rfl
  rw [hst2]
  have hp : PreV s H M'.y.cls (b.1 + a) (va_Pc ((Value.ref a :: as).map (cv b)) (fun U => Hd D ty b m U.heap ∧ Kn D ty b U)) (as.map (cv b)) := ⟨pc_blind, by rw [← hci.2]; exact hrecv, fun U hU hW => pc_at (as := .ref a :: as) C hH hS hU hW⟩
  have hW8 : 2 * (F0 mm pc ls ((as.map (cv b)).reverse ++ .ref (b.1 + a) :: S.map (cv b))).monitorRoom + ((S.map (cv b)).map fun v => v.category).sum ≤ 8 := lv_room (by rw [cat_map]; exact hcat)
  rcases lk with lk | ⟨host, lk⟩
  · exact go_after C hl hS (va_runV (cx_fix C) (hE.met l D ty b) ⟨cx_callB C ok.1 hn hrm lk, cx_w C ok.2.1, cx_w C ok.2.2⟩ hp rfl (by rw [List.length_map]) hl.1 rfl hW8 d hcap) kk
  · exact go_after C hl hS (va_runVN (cx_fix C) (hE.met l D ty b) ⟨cx_callN C ok.1 hn hrm lk, cx_w C ok.2.1, cx_w C ok.2.2⟩ hp rfl (by rw [List.length_map]) hl.1 rfl hW8 d hcap) kk
theorem go_callS {idx : Nat} {as St : List Value} (ok : OkS M') (lk : LkM M.y.cls idx M') (hrm : RmM M' M) (hE : Ev M' as m Q') (hn : NpM M' as.length) (hst : St = as.reverse ++ S) (hcat : (S.map (fun v => v.category)).sum ≤ 8) (hcap : cc + M'.mc ≤ M.mc ∧ zz + M'.ms ≤ M.ms) (d : decode M.b pc = .ok (.invokestatic idx, 3)) (kk : ∀ r m', Q' r m' → Go M Q (pc + 3) L (r.toList ++ S) m' (cc + M'.mc) (zz + M'.ms)) : Go M Q pc L St m cc zz := by
  intro D ty b p l e s mm args below meth c C H locs ls hl hH hS
  have hst2 : St.map (cv b) = (as.map (cv b)).reverse ++ S.map (cv b) := by rw [hst, List.map_append, List.map_reverse]
  rw [hst2]
  have hp : PreS s H (va_Pc (as.map (cv b)) (fun U => Hd D ty b m U.heap ∧ Kn D ty b U)) (as.map (cv b)) := ⟨pc_blind, fun U hU hW => pc_at (as := as) C hH hS hU hW⟩
  have hW8 : 2 * (F0 mm pc ls ((as.map (cv b)).reverse ++ S.map (cv b))).monitorRoom + ((S.map (cv b)).map fun v => v.category).sum ≤ 8 := lv_room (by rw [cat_map]; exact hcat)
  rcases lk with lk | ⟨host, lk⟩
  · exact go_after C hl hS (va_runS (cx_fix C) (hE.met l D ty b) ⟨cx_callB C ok.1 hn hrm lk, cx_w C ok.2⟩ hp rfl (by rw [List.length_map]) hl.1 rfl hW8 d hcap) kk
  · exact go_after C hl hS (va_runSN (cx_fix C) (hE.met l D ty b) ⟨cx_callN C ok.1 hn hrm lk, cx_w C ok.2, trivial⟩ hp rfl (by rw [List.length_map]) hl.1 rfl hW8 d hcap) kk
theorem go_callI {a idx : Nat} {as St : List Value} (ok : OkI M') (lk : LkM M.y.cls idx M') (hrm : RmM M' M) (hrt : M'.rt = none) (hE : Ev M' (.ref a :: as) m Q') (hn : NpM M' as.length) (hst : St = as.reverse ++ .ref a :: S) (hcat : (S.map (fun v => v.category)).sum ≤ 8) (hcap : cc + M'.mc ≤ M.mc ∧ zz + M'.ms ≤ M.ms) (d : decode M.b pc = .ok (.invokespecial idx, 3)) (kk : ∀ r m', Q' r m' → Go M Q (pc + 3) L (r.toList ++ S) m' (cc + M'.mc) (zz + M'.ms)) : Go M Q pc L St m cc zz := by
  intro D ty b p l e s mm args below meth c C H locs ls hl hH hS
  have hst2 : St.map (cv b) = (as.map (cv b)).reverse ++ .ref (b.1 + a) :: S.map (cv b) := by rw [hst, List.map_append, List.map_reverse]; rfl
  rw [hst2]
  have hp : PreS s H (va_Pc ((Value.ref a :: as).map (cv b)) (fun U => Hd D ty b m U.heap ∧ Kn D ty b U)) (.ref (b.1 + a) :: as.map (cv b)) := ⟨pc_blind, fun U hU hW => pc_at (as := .ref a :: as) C hH hS hU hW⟩
  have hW8 : 2 * (F0 mm pc ls ((as.map (cv b)).reverse ++ .ref (b.1 + a) :: S.map (cv b))).monitorRoom + ((S.map (cv b)).map fun v => v.category).sum ≤ 8 := lv_room (by rw [cat_map]; exact hcat)
  have hM := hE.met l D ty b
  rcases lk with lk | ⟨host, lk⟩
  · have cb := cx_callB (n := (as.map (cv b)).length) C ok.1 (by rw [List.length_map]; exact hn) hrm lk
    rw [hrt] at cb
    exact go_after C hl hS (va_runI (cx_fix C) hM ⟨cb, ok.2.2, cx_w C ok.2.1⟩ hp rfl rfl hl.1 rfl hW8 d hcap) kk
  · have cb := cx_callN (n := (as.map (cv b)).length) C ok.1 (by rw [List.length_map]; exact hn) hrm lk
    rw [hrt] at cb
    exact go_after C hl hS (va_runIN (cx_fix C) hM ⟨cb, ok.2.2, cx_w C ok.2.1⟩ hp rfl rfl hl.1 rfl hW8 d hcap) kk
end GOCALL
/-- the types that a field has -/
def isDv : FieldType → Bool
  | .int | .boolean | .long | .object _ | .array _ => true
  | _ => false
theorem cl_dv {ci : Nat} (h : ci < 13) : ∀ k, k < clN ci → isDv (clTy ci k) = true := by
  rcases (show ci = 0 ∨ ci = 1 ∨ ci = 2 ∨ ci = 3 ∨ ci = 4 ∨ ci = 5 ∨ ci = 6 ∨ ci = 7 ∨ ci = 8 ∨ ci = 9 ∨ ci = 10 ∨ ci = 11 ∨ ci = 12 by omega) with h | h | h | h | h | h | h | h | h | h | h | h | h <;> subst h <;> decide +kernel
section GORET
variable {M : MD} {Q : Option Value → Me → Prop} {pc : Nat} {L : List (Option Value)} {S : List Value} {m : Me} {cc zz : Nat}
theorem go_iret {v : Int32} (hr : M.rt = some .int) (hcap : cc ≤ M.mc ∧ zz ≤ M.ms) (d : decode M.b pc = .ok (.ireturn, 1)) (hQ : Q (some (.int v)) m) : Go M Q pc L [.int v] m cc zz := by
  intro D ty b p l e s mm args below meth c C H locs ls hl hH hS
  exact W.widen hcap.1 hcap.2 (W.iret (v := v) C.1 C.2.1 (C.2.2.2.1.trans hr) (fun t ht hW => ⟨⟨some (.int v), m, rfl, hQ, by rw [ht]; exact hH⟩, hS.F ht⟩) hS.2.2 d C.2.2.2.2.2.2.1)
theorem go_zret {v : Int32} (hr : M.rt = some .boolean) (hn : narrow .boolean (.int v) = .int v) (hcap : cc ≤ M.mc ∧ zz ≤ M.ms) (d : decode M.b pc = .ok (.ireturn, 1)) (hQ : Q (some (.int v)) m) : Go M Q pc L [.int v] m cc zz := by
  intro D ty b p l e s mm args below meth c C H locs ls hl hH hS
  exact W.widen hcap.1 hcap.2 (W.zret (v := v) C.1 C.2.1 (C.2.2.2.1.trans hr) hn (fun t ht hW => ⟨⟨some (.int v), m, rfl, hQ, by rw [ht]; exact hH⟩, hS.F ht⟩) hS.2.2 d C.2.2.2.2.2.2.1)
theorem go_cret {v : Int32} (hr : M.rt = some .char) (hn : narrow .char (.int v) = .int v) (hcap : cc ≤ M.mc ∧ zz ≤ M.ms) (d : decode M.b pc = .ok (.ireturn, 1)) (hQ : Q (some (.int v)) m) : Go M Q pc L [.int v] m cc zz := by
  intro D ty b p l e s mm args below meth c C H locs ls hl hH hS
  exact W.widen hcap.1 hcap.2 (W.zret (v := v) C.1 C.2.1 (C.2.2.2.1.trans hr) hn (fun t ht hW => ⟨⟨some (.int v), m, rfl, hQ, by rw [ht]; exact hH⟩, hS.F ht⟩) hS.2.2 d C.2.2.2.2.2.2.1)
theorem go_lret {v : Int64} (hr : M.rt = some .long) (hcap : cc ≤ M.mc ∧ zz ≤ M.ms) (d : decode M.b pc = .ok (.lreturn, 1)) (hQ : Q (some (.long v)) m) : Go M Q pc L [.long v] m cc zz := by
  intro D ty b p l e s mm args below meth c C H locs ls hl hH hS
  exact W.widen hcap.1 hcap.2 (W.lret (v := v) C.1 C.2.1 (C.2.2.2.1.trans hr) (fun t ht hW => ⟨⟨some (.long v), m, rfl, hQ, by rw [ht]; exact hH⟩, hS.F ht⟩) hS.2.2 d C.2.2.2.2.2.2.1)
theorem go_vret (hr : M.rt = none) (hcap : cc ≤ M.mc ∧ zz ≤ M.ms) (d : decode M.b pc = .ok (.return_, 1)) (hQ : Q none m) : Go M Q pc L [] m cc zz := by
  intro D ty b p l e s mm args below meth c C H locs ls hl hH hS
  exact W.widen hcap.1 hcap.2 (W.vret C.1 C.2.1 (C.2.2.2.1.trans hr) (fun t ht hW => ⟨⟨none, m, rfl, hQ, by rw [ht]; exact hH⟩, hS.F ht⟩) hS.2.2 d C.2.2.2.2.2.2.1)
theorem go_ldc {idx : Nat} {v : Int32} (hc : Cond.constant M.y.cls idx v ∈ good_tbl) (d : decode M.b pc = .ok (.ldc idx, 2)) (k : Go M Q (pc + 2) L (.int v :: S) m cc zz) : Go M Q pc L S m cc zz := by
  intro D ty b p l e s mm args below meth c C H locs ls hl hH hS
  exact lv_ldc C.1 C.2.1 C.2.2.2.2.1 (cx_w C hc) d (k D ty b p l e s mm args below meth c C H locs ls hl hH hS)
theorem go_ldcw {idx : Nat} {v : Int32} (hc : Cond.constant M.y.cls idx v ∈ good_tbl) (d : decode M.b pc = .ok (.ldc_w idx, 3)) (k : Go M Q (pc + 3) L (.int v :: S) m cc zz) : Go M Q pc L S m cc zz := by
  intro D ty b p l e s mm args below meth c C H locs ls hl hH hS
  exact lv_ldcw C.1 C.2.1 C.2.2.2.2.1 (cx_w C hc) d (k D ty b p l e s mm args below meth c C H locs ls hl hH hS)
theorem go_ldc2 {idx : Nat} {v : Int64} (hc : Cond.constantLong M.y.cls idx v ∈ good_tbl) (d : decode M.b pc = .ok (.ldc2_w idx, 3)) (k : Go M Q (pc + 3) L (.long v :: S) m cc zz) : Go M Q pc L S m cc zz := by
  intro D ty b p l e s mm args below meth c C H locs ls hl hH hS
  exact lv_ldc2 C.1 C.2.1 C.2.2.2.2.1 (cx_w C hc) d (k D ty b p l e s mm args below meth c C H locs ls hl hH hS)
/-- Math.max, Math.min -/
def OkMax : Prop := Cond.static Lib.Math.max.name ∈ good_tbl ∧ Cond.initialized "java/lang/Math" ∈ good_tbl ∧ Cond.code Lib.Math.max.name Lib.Math.max.code 2 (some .int) ∈ good_tbl
def OkMin : Prop := Cond.static Lib.Math.min.name ∈ good_tbl ∧ Cond.initialized "java/lang/Math" ∈ good_tbl ∧ Cond.code Lib.Math.min.name Lib.Math.min.code 2 (some .int) ∈ good_tbl
theorem go_max {idx : Nat} {x y : Int32} (ok : OkMax) (lk : Cond.methodLink M.y.cls idx Lib.Math.max.name ∈ good_tbl) (hrm : 1 ≤ M.fr ∧ (S.map (fun v => v.category)).sum + 13 ≤ M.lc) (hcap : cc ≤ M.mc ∧ zz ≤ M.ms) (d : decode M.b pc = .ok (.invokestatic idx, 3)) (k : Go M Q (pc + 3) L (.int (if x < y then y else x) :: S) m cc zz) : Go M Q pc L (.int y :: .int x :: S) m cc zz := by
  intro D ty b p l e s mm args below meth c C H locs ls hl hH hS
  exact va_mmax C.1 C.2.1 (C.2.2.1.trans hl.1.symm) C.2.2.2.2.1 (cx_w C lk) (cx_w C ok.1) (cx_w C ok.2.1) (cx_w C ok.2.2) hrm.1 (by rw [cat_map]; exact hrm.2) hcap.1 hcap.2 d (k D ty b p l e s mm args below meth c C H locs ls hl hH hS)
theorem go_min {idx : Nat} {x y : Int32} (ok : OkMin) (lk : Cond.methodLink M.y.cls idx Lib.Math.min.name ∈ good_tbl) (hrm : 1 ≤ M.fr ∧ (S.map (fun v => v.category)).sum + 13 ≤ M.lc) (hcap : cc ≤ M.mc ∧ zz ≤ M.ms) (d : decode M.b pc = .ok (.invokestatic idx, 3)) (k : Go M Q (pc + 3) L (.int (if y < x then y else x) :: S) m cc zz) : Go M Q pc L (.int y :: .int x :: S) m cc zz := by
  intro D ty b p l e s mm args below meth c C H locs ls hl hH hS
  exact va_mmin C.1 C.2.1 (C.2.2.1.trans hl.1.symm) C.2.2.2.2.1 (cx_w C lk) (cx_w C ok.1) (cx_w C ok.2.1) (cx_w C ok.2.2) hrm.1 (by rw [cat_map]; exact hrm.2) hcap.1 hcap.2 d (k D ty b p l e s mm args below meth c C H locs ls hl hH hS)
/-- Object.<init> -/
theorem go_obj {idx a : Nat} (lk : Cond.methodLink M.y.cls idx Lib.objectInit ∈ good_tbl) (ok : Cond.instanceMethod Lib.objectInit ∈ good_tbl ∧ Cond.code Lib.objectInit ⟨#[0xb1]⟩ 1 none ∈ good_tbl) (hrm : 1 ≤ M.fr ∧ (S.map (fun v => v.category)).sum + 12 ≤ M.lc) (d : decode M.b pc = .ok (.invokespecial idx, 3)) (k : Go M Q (pc + 3) L S m cc zz) : Go M Q pc L (.ref a :: S) m cc zz := by
  intro D ty b p l e s mm args below meth c C H locs ls hl hH hS
  refine W.objInit C.1 C.2.1 C.2.2.2.2.1 (cx_w C lk) (cx_w C ok.1) (cx_w C ok.2) rfl (by rw [C.2.2.1]; exact hl.1) rfl d hrm.1 ?_ (k D ty b p l e s mm args below meth c C H locs ls hl hH hS)
  rw [cat_map]
  exact Nat.le_trans (by show 2 * 0 + _ + 12 ≤ _; omega) hrm.2
theorem nw_1 {m : Me} : (nw m).1 = m.1 + 1 := rfl
theorem nwI {m : Me} : gI (nw m) m.1 = fun _ => 0 := up_s
theorem nwJ {m : Me} : gJ (nw m) m.1 = fun _ => 0 := up_s
theorem nwR {m : Me} : gR (nw m) m.1 = fun _ => none := up_s
theorem nwIn {m : Me} {a : Nat} (h : a ≠ m.1) : gI (nw m) a = gI m a := up_n h
theorem nwJn {m : Me} {a : Nat} (h : a ≠ m.1) : gJ (nw m) a = gJ m a := up_n h
theorem nwRn {m : Me} {a : Nat} (h : a ≠ m.1) : gR (nw m) a = gR m a := up_n h
theorem hd_nw {D : va_G} {ty : Nat → ClassId} {b : Bs} {H H1 : Heap} {x : va_E} (hH : Hd D ty b m H) (hx : ce b ty (nw m) m.1 = x) (hz : H1.size = H.size + 1) (ho : ∀ q, q < H.size → H1[q]? = H[q]?) (hat : va_at D vwCl (b.1 + m.1, x) H1) : Hd D ty b (nw m) H1 := by
  refine ⟨?_, by rw [hz, hH.2]; rfl⟩
  rw [← wo_nw hx (fun y hy => ce_nw hy)]
  refine (hH.1.kept (fun k q hq => ho q.1 ((hH.1 k q hq).lt))).app (fun k q hq => ?_)
  have hz : k < 1 := (List.getElem?_eq_some_iff.mp hq).1
  rw [show k = 0 by omega] at hq
  cases hq
  exact hat
theorem go_new {idx ci : Nat} (hcl : Cond.classLink M.y.cls idx (clC ci) ∈ good_tbl) (hci : ci < 13) (hins : Cond.instantiable (clC ci) (clN ci) ∈ good_tbl) (hini : Cond.initialized (clC ci) ∈ good_tbl) (hsh : SH m.1 = (0, ci)) (hcap : cc + 1 ≤ M.mc ∧ zz + clN ci ≤ M.ms) (d : decode M.b pc = .ok (.new idx, 3)) (k : Go M Q (pc + 3) L (.ref m.1 :: S) (nw m) (cc + 1) (zz + clN ci)) : Go M Q pc L S m cc zz := by
  intro D ty b p l e s mm args below meth c C H locs ls hl hH hS
  have hK := C.2.2.2.2.2.2.2.2.1.1
  have hKn := hK.1 ci _ (cl_at hci)
  have hin := cl_inM (M := M) hci
  refine W.newcK C.1 C.2.1 C.2.2.2.2.1 (cx_w C hcl) (cx_w C hins) (cx_w C hini) rfl d hcap.1 hcap.2 hKn.2.1 hH.2 fun H1 kC hkC e1 z1 o1 => ?_
  refine k D ty b p l e s mm args below meth c C H1 locs ls hl (hd_nw hH (ce_o hsh) (by rw [z1, hH.2]) (fun q hq => o1 q (by rw [← hH.2]; exact hq)) ⟨_, cl_at hci, (u_born (clTy ci) C.2.2.2.2.2.1 hin hKn hkC e1 (cl_ty hci)).to fun j hj => ?_⟩) ⟨Nat.le_trans hS.1 (by rw [z1, hH.2]; omega), fun x h1 h2 => (o1 x (by rw [← hH.2]; exact Nat.lt_of_lt_of_le h1 hS.1)).trans (hS.2.1 x h1 h2), hS.2.2⟩
  unfold vp_V
  rw [List.getD_eq_getElem?_getD, fl_at hj]
  show _ = fv b (nw m) m.1 j (clTy ci j)
  unfold fv
  rw [nwI, nwJ, nwR]
  have hd := cl_dv hci j hj
  cases ht : clTy ci j <;> first | rfl | (rw [ht] at hd; simp [isDv] at hd)
end GORET
