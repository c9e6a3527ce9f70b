/-! THE CLAIM OUT OF ONE WALK OF THE LAW'S BODY. Your part is whole_start (and what it stands on); all else here is the same for every law, but numbers. -/
def R_law : String := "FogShareLaw"
def lw_P (b : Addr) (xs : List Int32) (args : Array Value) (s : State) : Prop := args = #[.ref b] ∧ s.IntsAt b xs ∧ xs.length ≤ 3072 ∧ (Jvm.Cond.and given_1 narrow_1).before args s = true
def lw_Q (_ : Array Value) (s : State) (o : Outcome) (t : State) : Prop := o = .returned (some (.int 1)) ∧ Framed s o t [] 600000 7302249
def lw_Z (below : List Frame) (a : Array Value) (s : State) : State → Prop := fun t => ∃ o, t.status = .running ∧ Ended t below o ∧ lw_Q a s o t
/-- the law's own end, with 1 on the stack, nothing written that was there before, its room as the claim has it -/
theorem lw_ret {p : Program} {l : Launch} {e : Env} {s : State} {m : MethodId} {below : List Frame} {meth : Method} {c : Code} {b : Nat} (hx : p.tables.exec = Jvm.exec) (hb : c.code = code) (hr : meth.sig.returnType = ret) (hlocks : meth.locks = false) {pc : Nat} {H : Heap} {ls : Array Slot} (hdg : decode code pc = .ok (.ireturn, 1)) : W p l e room_1 s m #[Value.ref b] below meth c H [] 600000 7302249 (lw_Z below #[Value.ref b] s) (F0 m pc ls [.int 1]) := by
  intro T hT X
  obtain ⟨fs, hret, hrun, hended, hW, hframe⟩ := X.leave (v := some (.int 1)) (hlocks := hlocks) (fun h => by rw [hr] at h; cases h)
  have hmeth' : T.vm.method? m = some meth := X.method'
  refine ⟨T.setFrames fs, ?_, .returned (some (.int 1)), hrun, hended, rfl, ⟨_, rfl⟩, hW, hframe⟩
  jvm_step X.here [X.here.top, hx, hb, hdg, hmeth', hr, ret, narrow_b1]
  (try refine ⟨rfl, ?_⟩); (try refine ⟨rfl, ?_⟩)
  first | (intro acts; rw [hret _ acts rfl rfl rfl]) | rw [hret _ _ rfl rfl rfl]
  exact Steps.refl _
/-- what holds at the law's entry: the machine, the code, the tables' words (any of lw_tbl by 'hts w (by decide +kernel)'), the script of L ints xs at the cell b, what the Statement gives of the start (any of its parts by flat_of_before) -/
def lw_At (p : Program) (s : State) (m : MethodId) (meth : Method) (c : Code) (b L : Nat) (xs : Nat → Int32) : Prop :=
  p.tables.exec = Jvm.exec ∧ c.code = code ∧ meth.sig.returnType = ret ∧ c.maxLocals = 4 ∧ s.vm.findClass R_law = some m.cls ∧ (∀ w ∈ (Jvm.Cond.code x code maxLocals ret :: lw_tbl), w.before #[Value.ref b] s = true) ∧ va_X b L xs s s.heap ∧ b < s.heap.size ∧ meth.locks = false ∧ meth.name = "law" ∧ (Jvm.Cond.and given_1 narrow_1).before #[Value.ref b] s = true
def mL : MD := (yL_law, cL_law, 4, ret, 12, 456, 600000, 7302249)
/-- the law's walk, in its one run -/
def GL (D : va_G) (ty : Nat → ClassId) (b : Bs) (p : Program) (l : Launch) (e : Env) (s : State) (mm : MethodId) (bs : Nat) (below : List Frame) (meth : Method) (c : Code) (pc : Nat) (L : List (Option Value)) (S : List Value) (m : Me) (cc zz : Nat) : Prop :=
  ∀ (H : Heap) (locs : List Loc) (ls : Array Slot), lv_has ls mL.ml (lvl b L 0) → Hd D ty b m H → va_S (fun q => b.1 ≤ q) s.heap H locs →
    W p l e (rom mL) s mm #[Value.ref bs] below meth c H locs cc zz (lw_Z below #[Value.ref bs] s) (F0 mm pc ls (S.map (cv b)))
section GLROWS
variable {M' : MD} {Q' : Option Value → Me → Prop} {pc : Nat} {L : List (Option Value)} {S : List Value} {m : Me} {cc zz : Nat} {I : Nat → Nat → Int32} {J : Nat → Nat → Int64} {R : Nat → Nat → Option Nat}
variable {D : va_G} {ty : Nat → ClassId} {b : Bs} {p : Program} {l : Launch} {e : Env} {s : State} {mm : MethodId} {bs : Nat} {below : List Frame} {meth : Method} {c : Code} {H : Heap} {locs : List Loc} {ls : Array Slot}
theorem gl_iconst (C : Cx mL D ty b p s mm #[Value.ref bs] meth c) {n : Int} {v : Int32} (hv : Int32.ofInt n = v) (d : decode mL.b pc = .ok (.iconst n, 1)) (k : GL D ty b p l e s mm bs below meth c (pc + 1) L (.int v :: S) m cc zz) : GL D ty b p l e s mm bs below meth c pc L (S) m cc zz := by
  intro H locs ls hl hH hS
  exact lv_iconst C.1 C.2.1 d hv (k H locs ls hl hH hS)
theorem gl_bipush (C : Cx mL D ty b p s mm #[Value.ref bs] meth c) {n : Int} {v : Int32} (hv : (Int8.ofInt n).toInt32 = v) (d : decode mL.b pc = .ok (.bipush n, 2)) (k : GL D ty b p l e s mm bs below meth c (pc + 2) L (.int v :: S) m cc zz) : GL D ty b p l e s mm bs below meth c pc L (S) m cc zz := by
  intro H locs ls hl hH hS
  exact lv_bipush C.1 C.2.1 d hv (k H locs ls hl hH hS)
theorem gl_iload_n (C : Cx mL D ty b p s mm #[Value.ref bs] meth c) {q : Fin 4} {i : Nat} {x : Int32} (hi : (q : Nat) = i) (hL : L[i]? = some (some (.int x))) (d : decode mL.b pc = .ok (.iload_n q, 1)) (k : GL D ty b p l e s mm bs below meth c (pc + 1) L (.int x :: S) m cc zz) : GL D ty b p l e s mm bs below meth c pc L (S) m cc zz := by
  intro H locs ls hl hH hS
  exact lv_iload_n C.1 C.2.1 d hi (lvl_at hl hL) (k H locs ls hl hH hS)
theorem gl_aload_n (C : Cx mL D ty b p s mm #[Value.ref bs] meth c) {q : Fin 4} {i : Nat} {x : Nat} (hi : (q : Nat) = i) (hL : L[i]? = some (some (.ref x))) (d : decode mL.b pc = .ok (.aload_n q, 1)) (k : GL D ty b p l e s mm bs below meth c (pc + 1) L (.ref x :: S) m cc zz) : GL D ty b p l e s mm bs below meth c pc L (S) m cc zz := by
  intro H locs ls hl hH hS
  exact lv_aload_n C.1 C.2.1 d hi (lvl_at hl hL) (k H locs ls hl hH hS)
theorem gl_iadd (C : Cx mL D ty b p s mm #[Value.ref bs] meth c) {x y : Int32} (d : decode mL.b pc = .ok (.iadd, 1)) (k : GL D ty b p l e s mm bs below meth c (pc + 1) L (.int (x + y) :: S) m cc zz) : GL D ty b p l e s mm bs below meth c pc L (.int y :: .int x :: S) m cc zz := by
  intro H locs ls hl hH hS
  exact lv_iadd C.1 C.2.1 d (k H locs ls hl hH hS)
theorem gl_isub (C : Cx mL D ty b p s mm #[Value.ref bs] meth c) {x y : Int32} (d : decode mL.b pc = .ok (.isub, 1)) (k : GL D ty b p l e s mm bs below meth c (pc + 1) L (.int (x - y) :: S) m cc zz) : GL D ty b p l e s mm bs below meth c pc L (.int y :: .int x :: S) m cc zz := by
  intro H locs ls hl hH hS
  exact lv_isub C.1 C.2.1 d (k H locs ls hl hH hS)
theorem gl_iand (C : Cx mL D ty b p s mm #[Value.ref bs] meth c) {x y : Int32} (d : decode mL.b pc = .ok (.iand, 1)) (k : GL D ty b p l e s mm bs below meth c (pc + 1) L (.int (x &&& y) :: S) m cc zz) : GL D ty b p l e s mm bs below meth c pc L (.int y :: .int x :: S) m cc zz := by
  intro H locs ls hl hH hS
  exact lv_iand C.1 C.2.1 d (k H locs ls hl hH hS)
theorem gl_istore_n (C : Cx mL D ty b p s mm #[Value.ref bs] meth c) {q : Fin 4} {i : Nat} (hi : (q : Nat) = i) {x : Int32} (d : decode mL.b pc = .ok (.istore_n q, 1)) (hn : i < mL.ml) (hL : i < L.length) (k : GL D ty b p l e s mm bs below meth c (pc + 1) (st1 L i (.int x)) S m cc zz) : GL D ty b p l e s mm bs below meth c pc L (.int x :: S) m cc zz := by
  intro H locs ls hl hH hS
  exact lv_istore_n C.1 C.2.1 d hi hl hn rfl (fun ls1 hl1 => k H locs ls1 (st1_at hL hl1) hH hS)
theorem gl_astore_n (C : Cx mL D ty b p s mm #[Value.ref bs] meth c) {q : Fin 4} {i : Nat} (hi : (q : Nat) = i) {x : Nat} (d : decode mL.b pc = .ok (.astore_n q, 1)) (hn : i < mL.ml) (hL : i < L.length) (k : GL D ty b p l e s mm bs below meth c (pc + 1) (st1 L i (.ref x)) S m cc zz) : GL D ty b p l e s mm bs below meth c pc L (.ref x :: S) m cc zz := by
  intro H locs ls hl hH hS
  exact lv_astore_n C.1 C.2.1 d hi hl hn rfl (fun ls1 hl1 => k H locs ls1 (st1_at hL hl1) hH hS)
theorem gl_iinc (C : Cx mL D ty b p s mm #[Value.ref bs] meth c) {i : Nat} {n : Int} {x : Int32} (d : decode mL.b pc = .ok (.iinc i n, 3)) (hn : i < mL.ml) (hL : L[i]? = some (some (.int x))) (k : GL D ty b p l e s mm bs below meth c (pc + 3) (st1 L i (.int (x + Int32.ofInt n))) S m cc zz) : GL D ty b p l e s mm bs below meth c pc L S m cc zz := by
  intro H locs ls hl hH hS
  obtain ⟨j, hj⟩ := List.getElem?_of_mem (lvl_mem (b := b) (L := L) (i := 0).mpr ⟨i, .int x, hL, rfl⟩)
  rw [Nat.zero_add] at hj
  exact lv_iinc C.1 C.2.1 d hl hj rfl hn rfl (fun ls1 hl1 => k H locs ls1 (st1_at (v := .int (x + Int32.ofInt n)) (List.getElem?_eq_some_iff.mp hL).1 hl1) hH hS)
theorem gl_goto (C : Cx mL D ty b p s mm #[Value.ref bs] meth c) {off : Int} {tgt : Nat} (d : decode mL.b pc = .ok (.goto off, 3)) (ht : (pc : Int) + off = (tgt : Int)) (k : GL D ty b p l e s mm bs below meth c tgt L S m cc zz) : GL D ty b p l e s mm bs below meth c pc L S m cc zz := by
  intro H locs ls hl hH hS
  exact lv_goto C.1 C.2.1 d ht (k H locs ls hl hH hS)
theorem gl_dup (C : Cx mL D ty b p s mm #[Value.ref bs] meth c) {v : Value} (hc : v.category = 1) (d : decode mL.b pc = .ok (.dup, 1)) (k : GL D ty b p l e s mm bs below meth c (pc + 1) L (v :: v :: S) m cc zz) : GL D ty b p l e s mm bs below meth c pc L (v :: S) m cc zz := by
  intro H locs ls hl hH hS
  exact lv_dup C.1 C.2.1 d ((cv_cat b v).trans hc) (k H locs ls hl hH hS)
theorem gl_icmp_eq (C : Cx mL D ty b p s mm #[Value.ref bs] meth c) {x y : Int32} {off : Int} {tgt : Nat} (d : decode mL.b pc = .ok (.if_icmp .eq off, 3)) (ht : (pc : Int) + off = (tgt : Int)) (kt : x = y → GL D ty b p l e s mm bs below meth c tgt L S m cc zz) (kf : ¬ x = y → GL D ty b p l e s mm bs below meth c (pc + 3) L S m cc zz) : GL D ty b p l e s mm bs below meth c pc L (.int y :: .int x :: S) m cc zz := by
  intro H locs ls hl hH hS
  exact lv_icmp_eq C.1 C.2.1 d ht (fun h => kt h H locs ls hl hH hS) (fun h => kf h H locs ls hl hH hS)
theorem gl_icmp_gt (C : Cx mL D ty b p s mm #[Value.ref bs] meth c) {x y : Int32} {off : Int} {tgt : Nat} (d : decode mL.b pc = .ok (.if_icmp .gt off, 3)) (ht : (pc : Int) + off = (tgt : Int)) (kt : y < x → GL D ty b p l e s mm bs below meth c tgt L S m cc zz) (kf : ¬ y < x → GL D ty b p l e s mm bs below meth c (pc + 3) L S m cc zz) : GL D ty b p l e s mm bs below meth c pc L (.int y :: .int x :: S) m cc zz := by
  intro H locs ls hl hH hS
  exact lv_icmp_gt C.1 C.2.1 d ht (fun h => kt h H locs ls hl hH hS) (fun h => kf h H locs ls hl hH hS)
theorem gl_tswIn (C : Cx mL D ty b p s mm #[Value.ref bs] meth c) {dflt lo hi : Int} {offs : Array Int} {len : Nat} {x : Int32} {off : Int} {tgt : Nat} (d : decode mL.b pc = .ok (.tableswitch dflt lo hi offs, len)) (h1 : ¬ x.toInt < lo) (h2 : ¬ hi < x.toInt) (ho : offs[(x.toInt - lo).toNat]? = some off) (ht : (pc : Int) + off = (tgt : Int)) (k : GL D ty b p l e s mm bs below meth c tgt L S m cc zz) : GL D ty b p l e s mm bs below meth c pc L (.int x :: S) m cc zz := by
  intro H locs ls hl hH hS
  exact lv_tableIn C.1 C.2.1 d h1 h2 ho ht (k H locs ls hl hH hS)
theorem gl_tswOut (C : Cx mL D ty b p s mm #[Value.ref bs] meth c) {dflt lo hi : Int} {offs : Array Int} {len : Nat} {x : Int32} {tgt : Nat} (d : decode mL.b pc = .ok (.tableswitch dflt lo hi offs, len)) (h : x.toInt < lo ∨ hi < x.toInt) (ht : (pc : Int) + dflt = (tgt : Int)) (k : GL D ty b p l e s mm bs below meth c tgt L S m cc zz) : GL D ty b p l e s mm bs below meth c pc L (.int x :: S) m cc zz := by
  intro H locs ls hl hH hS
  exact lv_tableOut C.1 C.2.1 d h ht (k H locs ls hl hH hS)
theorem gl_after (C : Cx mL D ty b p s mm #[Value.ref bs] meth c) {aa : Array Value} {st : List Value} (hH : Hd D ty b m H) (hl : lv_has ls mL.ml (lvl b L 0)) (hS : va_S (fun q => b.1 ≤ q) s.heap H locs)
    (hr : va_Run p l e (rom mL) s mm #[Value.ref bs] below meth c H locs cc zz M'.mc M'.ms (F0 mm pc ls st) (S.map (cv b)) (Qcc Q' D ty b aa) (fun q => b.1 ≤ q))
    (kk : ∀ r m', m.1 ≤ m'.1 → Q' r m' → GL D ty b p l e s mm bs below meth c (pc + 3) L (r.toList ++ S) m' (cc + M'.mc) (zz + M'.ms)) : W p l e (rom mL) s mm #[Value.ref bs] below meth c H locs cc zz (lw_Z below #[Value.ref bs] s) (F0 mm pc ls st) := by
  intro T hT X
  obtain ⟨v, st₀, t, T', L1, h0, X', hL, e1, e2, ⟨⟨r, m', hv, hq, hH'⟩, hz, hk⟩, st⟩ := hr T hT X
  have hv' : v = r.map (cv b) := by injection hv
  subst hv'
  rw [h0] at hz hk
  have hS1 : va_S (fun q => b.1 ≤ q) s.heap T'.heap (locs ++ L1) := ⟨Nat.le_trans hS.1 (by rw [e1]; exact hz), fun q h1 h2 => by rw [e1, hk q (Nat.lt_of_lt_of_le h1 hS.1) h2]; exact hS.2.1 q h1 h2, fun q hq => by
      rcases List.mem_append.mp hq with h | h
      · exact hS.2.2 q h
      · exact hL q h⟩
  have hrs : (r.toList ++ S).map (cv b) = (r.map (cv b)).toList ++ S.map (cv b) := by cases r <;> rfl
  have key := kk r m' (by have h1 := hH.2; have h2 := hH'.2; omega) hq T'.heap (locs ++ L1) ls hl (by rw [e1]; exact hH') hS1
  rw [hrs] at key
  obtain ⟨t2, a1, b1⟩ := key T' rfl X'
  exact ⟨t2, st t2 a1, b1⟩
theorem gl_callV (C : Cx mL D ty b p s mm #[Value.ref bs] meth c) {a idx ci : Nat} {as St : List Value} (ok : OkV M') (lk : LkM mL.y.cls idx M') (hrm : RmM M' mL) (hs : Is m.1 a (0, ci)) (hci : ci < 13 ∧ clC ci = M'.y.cls) (hE : Ev M' (.ref a :: as) m Q') (hn : NpM M' as.length) (hst : St = as.reverse ++ .ref a :: S) (hcat : (S.map (fun v => v.category)).sum ≤ 8) (hcap : cc + M'.mc ≤ mL.mc ∧ zz + M'.ms ≤ mL.ms) (d : decode mL.b pc = .ok (.invokevirtual idx, 3)) (kk : ∀ r m', m.1 ≤ m'.1 → Q' r m' → GL D ty b p l e s mm bs below meth c (pc + 3) L (r.toList ++ S) m' (cc + M'.mc) (zz + M'.ms)) : GL D ty b p l e s mm bs below meth c pc L St m cc zz := by
  intro H locs ls hl hH hS
  have ha := wo_at (b := b) (ty := ty) hs.2
  rw [ce_o hs.1] at ha
  have hrecv := va_recv C.2.2.2.2.2.2.2.2.1.1 hH.1 (cl_at hci.1) ha
  have hst2 : St.map (cv b) = (as.map (cv b)).reverse ++ .ref (b.1 + a) :: S.map (cv b) := by rw [hst, List.map_append, List.map_reverse]; rfl
  rw [hst2]
  have hp : PreV s H M'.y.cls (b.1 + a) (va_Pc ((Value.ref a :: as).map (cv b)) (fun U => Hd D ty b m U.heap ∧ Kn D ty b U)) (as.map (cv b)) := ⟨pc_blind, by rw [← hci.2]; exact hrecv, fun U hU hW => pc_at (as := .ref a :: as) C hH hS hU hW⟩
  have hW8 : 2 * (F0 mm pc ls ((as.map (cv b)).reverse ++ .ref (b.1 + a) :: S.map (cv b))).monitorRoom + ((S.map (cv b)).map fun v => v.category).sum ≤ 8 := lv_room (by rw [cat_map]; exact hcat)
  rcases lk with lk | ⟨host, lk⟩
  · exact gl_after C hH hl hS (va_runV (cx_fix C) (hE.met l D ty b) ⟨cx_callB C ok.1 hn hrm lk, cx_w C ok.2.1, cx_w C ok.2.2⟩ hp rfl (by rw [List.length_map]) hl.1 rfl hW8 d hcap) kk
  · exact gl_after C hH hl hS (va_runVN (cx_fix C) (hE.met l D ty b) ⟨cx_callN C ok.1 hn hrm lk, cx_w C ok.2.1, cx_w C ok.2.2⟩ hp rfl (by rw [List.length_map]) hl.1 rfl hW8 d hcap) kk
theorem gl_callI (C : Cx mL D ty b p s mm #[Value.ref bs] meth c) {a idx : Nat} {as St : List Value} (ok : OkI M') (lk : LkM mL.y.cls idx M') (hrm : RmM M' mL) (hrt : M'.rt = none) (hE : Ev M' (.ref a :: as) m Q') (hn : NpM M' as.length) (hst : St = as.reverse ++ .ref a :: S) (hcat : (S.map (fun v => v.category)).sum ≤ 8) (hcap : cc + M'.mc ≤ mL.mc ∧ zz + M'.ms ≤ mL.ms) (d : decode mL.b pc = .ok (.invokespecial idx, 3)) (kk : ∀ r m', m.1 ≤ m'.1 → Q' r m' → GL D ty b p l e s mm bs below meth c (pc + 3) L (r.toList ++ S) m' (cc + M'.mc) (zz + M'.ms)) : GL D ty b p l e s mm bs below meth c pc L St m cc zz := by
  intro H locs ls hl hH hS
  have hst2 : St.map (cv b) = (as.map (cv b)).reverse ++ .ref (b.1 + a) :: S.map (cv b) := by rw [hst, List.map_append, List.map_reverse]; rfl
  rw [hst2]
  have hp : PreS s H (va_Pc ((Value.ref a :: as).map (cv b)) (fun U => Hd D ty b m U.heap ∧ Kn D ty b U)) (.ref (b.1 + a) :: as.map (cv b)) := ⟨pc_blind, fun U hU hW => pc_at (as := .ref a :: as) C hH hS hU hW⟩
  have hW8 : 2 * (F0 mm pc ls ((as.map (cv b)).reverse ++ .ref (b.1 + a) :: S.map (cv b))).monitorRoom + ((S.map (cv b)).map fun v => v.category).sum ≤ 8 := lv_room (by rw [cat_map]; exact hcat)
  have hM := hE.met l D ty b
  rcases lk with lk | ⟨host, lk⟩
  · have cb := cx_callB (n := (as.map (cv b)).length) C ok.1 (by rw [List.length_map]; exact hn) hrm lk
    rw [hrt] at cb
    exact gl_after C hH hl hS (va_runI (cx_fix C) hM ⟨cb, ok.2.2, cx_w C ok.2.1⟩ hp rfl rfl hl.1 rfl hW8 d hcap) kk
  · have cb := cx_callN (n := (as.map (cv b)).length) C ok.1 (by rw [List.length_map]; exact hn) hrm lk
    rw [hrt] at cb
    exact gl_after C hH hl hS (va_runIN (cx_fix C) hM ⟨cb, ok.2.2, cx_w C ok.2.1⟩ hp rfl rfl hl.1 rfl hW8 d hcap) kk
theorem gl_new (C : Cx mL D ty b p s mm #[Value.ref bs] meth c) {idx ci : Nat} (hcl : Cond.classLink mL.y.cls idx (clC ci) ∈ good_tbl) (hci : ci < 13) (hins : Cond.instantiable (clC ci) (clN ci) ∈ good_tbl) (hini : Cond.initialized (clC ci) ∈ good_tbl) (hsh : SH m.1 = (0, ci)) (hcap : cc + 1 ≤ mL.mc ∧ zz + clN ci ≤ mL.ms) (d : decode mL.b pc = .ok (.new idx, 3)) (k : GL D ty b p l e s mm bs below meth c (pc + 3) L (.ref m.1 :: S) (nw m) (cc + 1) (zz + clN ci)) : GL D ty b p l e s mm bs below meth c pc L S m cc zz := by
  intro H locs ls hl hH hS
  have hK := C.2.2.2.2.2.2.2.2.1.1
  have hKn := hK.1 ci _ (cl_at hci)
  have hin := cl_inM (M := mL) hci
  refine W.newcK C.1 C.2.1 C.2.2.2.2.1 (cx_w C hcl) (cx_w C hins) (cx_w C hini) rfl d hcap.1 hcap.2 hKn.2.1 hH.2 fun H1 kC hkC e1 z1 o1 => ?_
  refine k H1 locs ls hl (hd_nw hH (ce_o hsh) (by rw [z1, hH.2]) (fun q hq => o1 q (by rw [← hH.2]; exact hq)) ⟨_, cl_at hci, (u_born (clTy ci) C.2.2.2.2.2.1 hin hKn hkC e1 (cl_ty hci)).to fun j hj => ?_⟩) ⟨Nat.le_trans hS.1 (by rw [z1, hH.2]; omega), fun x h1 h2 => (o1 x (by rw [← hH.2]; exact Nat.lt_of_lt_of_le h1 hS.1)).trans (hS.2.1 x h1 h2), hS.2.2⟩
  unfold vp_V
  rw [List.getD_eq_getElem?_getD, fl_at hj]
  show _ = fv b (nw m) m.1 j (clTy ci j)
  unfold fv
  rw [nwI, nwJ, nwR]
  have hd := cl_dv hci j hj
  cases ht : clTy ci j <;> first | rfl | (rw [ht] at hd; simp [isDv] at hd)
theorem gl_newE (C : Cx mL D ty b p s mm #[Value.ref bs] meth c) {n idx ci : Nat} (hz : Zr n I J R) (hcl : Cond.classLink mL.y.cls idx (clC ci) ∈ good_tbl) (hci : ci < 13) (hins : Cond.instantiable (clC ci) (clN ci) ∈ good_tbl) (hini : Cond.initialized (clC ci) ∈ good_tbl) (hsh : SH n = (0, ci)) (hcap : cc + 1 ≤ mL.mc ∧ zz + clN ci ≤ mL.ms) (d : decode mL.b pc = .ok (.new idx, 3)) (k : GL D ty b p l e s mm bs below meth c (pc + 3) L (.ref n :: S) (n + 1, I, J, va_up R n (fun _ => none)) (cc + 1) (zz + clN ci)) : GL D ty b p l e s mm bs below meth c pc L S (n, I, J, R) cc zz := by
  rw [up_id (hz n (Nat.le_refl _)).2.2, ← nw_e hz] at k
  exact gl_new C (m := (n, I, J, R)) hcl hci hins hini hsh hcap d k
theorem gl_L (L' : List (Option Value)) (hL : L' = L) (h : GL D ty b p l e s mm bs below meth c pc L' S m cc zz) : GL D ty b p l e s mm bs below meth c pc L S m cc zz := by subst hL; exact h
theorem gl_cN {c' z' : Nat} (e1 : cc = c') (f : zz = z') (h : GL D ty b p l e s mm bs below meth c pc L S m c' z') : GL D ty b p l e s mm bs below meth c pc L ((none : Option Value).toList ++ S) m cc zz := by
  subst e1 f
  exact h
theorem gl_c1 {v : Value} (h : GL D ty b p l e s mm bs below meth c pc L (v :: S) m cc zz) : GL D ty b p l e s mm bs below meth c pc L ((some v).toList ++ S) m (cc + 0) (zz + 0) := h
/-- the script lies at bs -/
def Scr (b : Bs) (s : State) (bs Ln : Nat) (xs : Nat → Int32) : Prop := b.2 200 = some bs ∧ va_X bs Ln xs s s.heap ∧ bs < s.heap.size ∧ s.heap.size = b.1
theorem scr_cv {Ln : Nat} {xs : Nat → Int32} (h : Scr b s bs Ln xs) : cv b (.retAddr 200) = .ref bs := by
  show va_rf (b.2 200) = _
  rw [h.1]
  rfl
theorem gl_scr {Ln : Nat} {xs : Nat → Int32} (C : Cx mL D ty b p s mm #[Value.ref bs] meth c) (X : Scr b s bs Ln xs) (hL : L[0]? = some (some (.retAddr 200))) (d : decode mL.b pc = .ok (.aload_n 0, 1)) (k : GL D ty b p l e s mm bs below meth c (pc + 1) L (.retAddr 200 :: S) m cc zz) : GL D ty b p l e s mm bs below meth c pc L S m cc zz := by
  intro H locs ls hl hH hS
  have h1 := lvl_at hl hL
  rw [scr_cv X] at h1
  have k2 := k H locs ls hl hH hS
  rw [List.map_cons, scr_cv X] at k2
  exact lv_aload_n C.1 C.2.1 d rfl h1 k2
theorem gl_slen {Ln : Nat} {xs : Nat → Int32} (C : Cx mL D ty b p s mm #[Value.ref bs] meth c) (X : Scr b s bs Ln xs) (d : decode mL.b pc = .ok (.arraylength, 1)) (k : GL D ty b p l e s mm bs below meth c (pc + 1) L (.int (nI Ln) :: S) m cc zz) : GL D ty b p l e s mm bs below meth c pc L (.retAddr 200 :: S) m cc zz := by
  intro H locs ls hl hH hS
  rw [List.map_cons, scr_cv X]
  exact va_slen C.1 C.2.1 X.2.1 X.2.2.1 (Nat.not_le.mpr (by have h1 := X.2.2.1; have h2 := X.2.2.2; omega)) hS d (k H locs ls hl hH hS)
theorem gl_sld {Ln j : Nat} {xs : Nat → Int32} {i : Int32} (C : Cx mL D ty b p s mm #[Value.ref bs] meth c) (X : Scr b s bs Ln xs) (hi : i = nI j) (hj : j < Ln) (hn : Ln ≤ 3072) (d : decode mL.b pc = .ok (.iaload, 1)) (k : GL D ty b p l e s mm bs below meth c (pc + 1) L (.int (xs j) :: S) m cc zz) : GL D ty b p l e s mm bs below meth c pc L (.int i :: .retAddr 200 :: S) m cc zz := by
  intro H locs ls hl hH hS
  subst hi
  have hc : (nI j).toNatClampNeg = j := nI_clamp (by omega)
  have k2 := k H locs ls hl hH hS
  rw [show xs j = xs (nI j).toNatClampNeg by rw [hc]] at k2
  rw [List.map_cons, List.map_cons, scr_cv X]
  exact va_sld C.1 C.2.1 X.2.1 X.2.2.1 (Nat.not_le.mpr (by have h1 := X.2.2.1; have h2 := X.2.2.2; omega)) hS (by
    intro q
    rcases q with q | q
    · exact nI_nn (by omega) q
    · rw [hc] at q; omega) d k2
/-- an argument: the k-th of the call that begins at i -/
theorem gl_arg {Ln i : Nat} {kk : Nat} {kz : Int} {xs : Nat → Int32} (C : Cx mL D ty b p s mm #[Value.ref bs] meth c) (X : Scr b s bs Ln xs) (hkz : Int32.ofInt kz = nI kk) (hL0 : L[0]? = some (some (.retAddr 200))) (hL3 : L[3]? = some (some (.int (nI i)))) (hj : i + kk < Ln) (hn : Ln ≤ 3072) (d0 : decode mL.b pc = .ok (.aload_n 0, 1)) (d1 : decode mL.b (pc + 1) = .ok (.iload_n 3, 1)) (d2 : decode mL.b (pc + 2) = .ok (.iconst kz, 1)) (d3 : decode mL.b (pc + 3) = .ok (.iadd, 1)) (d4 : decode mL.b (pc + 4) = .ok (.iaload, 1)) (k : GL D ty b p l e s mm bs below meth c (pc + 5) L (.int (xs (i + kk)) :: S) m cc zz) : GL D ty b p l e s mm bs below meth c pc L S m cc zz := by
  refine gl_scr C X hL0 d0 ?_
  refine gl_iload_n C (q := 3) (i := 3) rfl hL3 d1 ?_
  refine gl_iconst C hkz d2 ?_
  refine gl_iadd C d3 ?_
  exact gl_sld C X (nI_add ..) hj hn d4 k
end GLROWS
