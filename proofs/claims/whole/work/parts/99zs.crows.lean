theorem acI : Cond.arrayClass .int ∈ good_tbl := (wg1 133 rfl rfl)
theorem acB : Cond.arrayClass .byte ∈ good_tbl := (wg1 43 rfl rfl)
theorem acZ : Cond.arrayClass .boolean ∈ good_tbl := (wg2 28 rfl rfl)
theorem acJ : Cond.arrayClass .long ∈ good_tbl := (wg1 132 rfl rfl)
/-- nothing lies from place n on -/
def Zr (n : Nat) (I : Nat → Nat → Int32) (J : Nat → Nat → Int64) (R : Nat → Nat → Option Nat) : Prop := ∀ x, n ≤ x → I x = (fun _ => 0) ∧ J x = (fun _ => 0) ∧ R x = fun _ => none
theorem Zr.le {n n' : Nat} {I : Nat → Nat → Int32} {J : Nat → Nat → Int64} {R : Nat → Nat → Option Nat} (h : Zr n I J R) (q : n ≤ n') : Zr n' I J R := fun x hx => h x (Nat.le_trans q hx)
theorem Zr.up {n q : Nat} {I : Nat → Nat → Int32} {J : Nat → Nat → Int64} {R : Nat → Nat → Option Nat} {T : Nat → Option Nat} (h : Zr n I J R) (hq : q < n) : Zr n I J (va_up R q T) := fun x hx => ⟨(h x hx).1, (h x hx).2.1, (up_n (by omega)).trans (h x hx).2.2⟩
theorem up_id {α : Type} {f : Nat → α} {a : Nat} {r : α} (h : f a = r) : va_up f a r = f := by
  funext x
  by_cases e : x = a
  · subst e; rw [up_s, h]
  · rw [up_n e]
theorem up_up {α : Type} {f : Nat → α} {a : Nat} {r r' : α} : va_up (va_up f a r) a r' = va_up f a r' := by
  funext x
  by_cases e : x = a
  · subst e; rw [up_s, up_s]
  · rw [up_n e, up_n e, up_n e]
theorem up_sw {α : Type} {f : Nat → α} {a q : Nat} {r t : α} (h : q ≠ a) : va_up (va_up f a r) q t = va_up (va_up f q t) a r := by
  funext x
  by_cases e : x = a
  · subst e; rw [up_n (Ne.symm h), up_s, up_s]
  · rw [up_n e]
    by_cases e2 : x = q
    · subst e2; rw [up_s, up_s]
    · rw [up_n e2, up_n e2, up_n e]
theorem nw_e {n : Nat} {I : Nat → Nat → Int32} {J : Nat → Nat → Int64} {R : Nat → Nat → Option Nat} (h : Zr n I J R) : nw (n, I, J, R) = (n + 1, I, J, R) := by
  obtain ⟨a, b, c⟩ := h n (Nat.le_refl _)
  show (n + 1, va_up I n _, va_up J n _, va_up R n _) = _
  rw [up_id a, up_id b, up_id c]
theorem nI_nn {N : Nat} (h : N ≤ 4000) : ¬ nI N < 0 := by
  intro q
  have h2 := Int32.lt_iff_toInt_lt.mp q
  rw [show (nI N).toInt = (N : Int) from Int32.toInt_ofNat_of_lt (by omega)] at h2
  have h3 : ((0 : Int32).toInt) = 0 := by decide
  omega
section CROWS
variable {M : MD} {Q : Option Value → Me → Prop} {pc : Nat} {L : List (Option Value)} {S : List Value} {cc zz : Nat} {I : Nat → Nat → Int32} {J : Nat → Nat → Int64} {R : Nat → Nat → Option Nat}
theorem go_cN {m : Me} {c' z' : Nat} (e : cc = c') (f : zz = z') (h : Go M Q pc L S m c' z') : Go M Q pc L ((none : Option Value).toList ++ S) m cc zz := by
  subst e f
  exact h
theorem go_nwaI {n N : Nat} (hz : Zr n I J R) (hs : SH n = (1, N)) (hN : N ≤ 4000) (hcap : cc + 1 ≤ M.mc ∧ zz + N ≤ M.ms) (d : decode M.b pc = .ok (.newarray .int, 2)) (k : Go M Q (pc + 2) L (.ref n :: S) (n + 1, I, J, R) (cc + 1) (zz + N)) : Go M Q pc L (.int (nI N) :: S) (n, I, J, R) cc zz := by
  intro D ty b p l e s mm args below meth c C H locs ls hl hH hS
  have hK := C.2.2.2.2.2.2.2.2.1.1
  rw [← nw_e hz] at k
  refine va_newaK (atype := .int) C.1 C.2.1 (cx_w C acI) rfl d rfl (nI_nn hN) (nI_clamp (by omega)) (by show N * 4 ≤ _; omega) hcap.1 hcap.2 hH.2 fun H1 cA e1 z1 o1 hAr hNm => ?_
  have hcA : cA = ty 0 := Option.some.inj (hNm.symm.trans (hK.2 0 _ rfl).2)
  subst hcA
  have hsz : H.size = b.1 + n := hH.2
  refine k D ty b p l e s mm args below meth c C H1 locs ls hl (hd_nw hH (ce_i hs) (by rw [z1, hsz]) (fun q hq => o1 q (by show q < b.1 + n; omega)) ?_) ⟨Nat.le_trans hS.1 (by rw [z1, hsz]; exact Nat.le_succ _), fun x h1 h2 => (o1 x (by have := hS.1; show x < b.1 + n; omega)).trans (hS.2.1 x h1 h2), hS.2.2⟩
  show H1[b.1 + n]? = some (vp_cell (ty 0) (N, .inl (gI (nw (n, I, J, R)) n)))
  rw [show gI (nw (n, I, J, R)) n = fun _ => 0 from nwI (m := (n, I, J, R))]
  exact e1
theorem go_nwaB {n N : Nat} (hz : Zr n I J R) (hs : SH n = (2, N)) (hN : N ≤ 4000) (hcap : cc + 1 ≤ M.mc ∧ zz + N ≤ M.ms) (d : decode M.b pc = .ok (.newarray .byte, 2)) (k : Go M Q (pc + 2) L (.ref n :: S) (n + 1, I, J, R) (cc + 1) (zz + N)) : Go M Q pc L (.int (nI N) :: S) (n, I, J, R) cc zz := by
  intro D ty b p l e s mm args below meth c C H locs ls hl hH hS
  have hK := C.2.2.2.2.2.2.2.2.1.1
  rw [← nw_e hz] at k
  refine va_newaK (atype := .byte) C.1 C.2.1 (cx_w C acB) rfl d rfl (nI_nn hN) (nI_clamp (by omega)) (by show N * 1 ≤ _; omega) hcap.1 hcap.2 hH.2 fun H1 cA e1 z1 o1 hAr hNm => ?_
  have hcA : cA = ty 1 := Option.some.inj (hNm.symm.trans (hK.2 1 _ rfl).2)
  subst hcA
  have hsz : H.size = b.1 + n := hH.2
  refine k D ty b p l e s mm args below meth c C H1 locs ls hl (hd_nw hH (ce_b hs) (by rw [z1, hsz]) (fun q hq => o1 q (by show q < b.1 + n; omega)) ?_) ⟨Nat.le_trans hS.1 (by rw [z1, hsz]; exact Nat.le_succ _), fun x h1 h2 => (o1 x (by have := hS.1; show x < b.1 + n; omega)).trans (hS.2.1 x h1 h2), hS.2.2⟩
  show H1[b.1 + n]? = some (vp_cell (ty 1) (N, .inl (gI (nw (n, I, J, R)) n)))
  rw [show gI (nw (n, I, J, R)) n = fun _ => 0 from nwI (m := (n, I, J, R))]
  exact e1
theorem go_nwaZ {n N : Nat} (hz : Zr n I J R) (hs : SH n = (3, N)) (hN : N ≤ 4000) (hcap : cc + 1 ≤ M.mc ∧ zz + N ≤ M.ms) (d : decode M.b pc = .ok (.newarray .boolean, 2)) (k : Go M Q (pc + 2) L (.ref n :: S) (n + 1, I, J, R) (cc + 1) (zz + N)) : Go M Q pc L (.int (nI N) :: S) (n, I, J, R) cc zz := by
  intro D ty b p l e s mm args below meth c C H locs ls hl hH hS
  have hK := C.2.2.2.2.2.2.2.2.1.1
  rw [← nw_e hz] at k
  refine va_newaK (atype := .boolean) C.1 C.2.1 (cx_w C acZ) rfl d rfl (nI_nn hN) (nI_clamp (by omega)) (by show N * 1 ≤ _; omega) hcap.1 hcap.2 hH.2 fun H1 cA e1 z1 o1 hAr hNm => ?_
  have hcA : cA = ty 2 := Option.some.inj (hNm.symm.trans (hK.2 2 _ rfl).2)
  subst hcA
  have hsz : H.size = b.1 + n := hH.2
  refine k D ty b p l e s mm args below meth c C H1 locs ls hl (hd_nw hH (ce_z hs) (by rw [z1, hsz]) (fun q hq => o1 q (by show q < b.1 + n; omega)) ?_) ⟨Nat.le_trans hS.1 (by rw [z1, hsz]; exact Nat.le_succ _), fun x h1 h2 => (o1 x (by have := hS.1; show x < b.1 + n; omega)).trans (hS.2.1 x h1 h2), hS.2.2⟩
  show H1[b.1 + n]? = some (vp_cell (ty 2) (N, .inl (gI (nw (n, I, J, R)) n)))
  rw [show gI (nw (n, I, J, R)) n = fun _ => 0 from nwI (m := (n, I, J, R))]
  exact e1
theorem go_nwaJ {n N : Nat} (hz : Zr n I J R) (hs : SH n = (4, N)) (hN : N ≤ 4000) (hcap : cc + 1 ≤ M.mc ∧ zz + N ≤ M.ms) (d : decode M.b pc = .ok (.newarray .long, 2)) (k : Go M Q (pc + 2) L (.ref n :: S) (n + 1, I, J, R) (cc + 1) (zz + N)) : Go M Q pc L (.int (nI N) :: S) (n, I, J, R) cc zz := by
  intro D ty b p l e s mm args below meth c C H locs ls hl hH hS
  have hK := C.2.2.2.2.2.2.2.2.1.1
  rw [← nw_e hz] at k
  refine va_newaK (atype := .long) C.1 C.2.1 (cx_w C acJ) rfl d rfl (nI_nn hN) (nI_clamp (by omega)) (by show N * 8 ≤ _; omega) hcap.1 hcap.2 hH.2 fun H1 cA e1 z1 o1 hAr hNm => ?_
  have hcA : cA = ty 3 := Option.some.inj (hNm.symm.trans (hK.2 3 _ rfl).2)
  subst hcA
  have hsz : H.size = b.1 + n := hH.2
  refine k D ty b p l e s mm args below meth c C H1 locs ls hl (hd_nw hH (ce_l hs) (by rw [z1, hsz]) (fun q hq => o1 q (by show q < b.1 + n; omega)) ?_) ⟨Nat.le_trans hS.1 (by rw [z1, hsz]; exact Nat.le_succ _), fun x h1 h2 => (o1 x (by have := hS.1; show x < b.1 + n; omega)).trans (hS.2.1 x h1 h2), hS.2.2⟩
  show H1[b.1 + n]? = some (vp_cell (ty 3) (N, .inr (.inl (gJ (nw (n, I, J, R)) n))))
  rw [show gJ (nw (n, I, J, R)) n = fun _ => 0 from nwJ (m := (n, I, J, R))]
  exact e1
theorem go_nwq {n N idx : Nat} (hz : Zr n I J R) (hcl : Cond.classLink M.y.cls idx RX1 ∈ good_tbl) (hs : SH n = (5, N)) (hN : N ≤ 4000) (hcap : cc + 1 ≤ M.mc ∧ zz + N ≤ M.ms) (d : decode M.b pc = .ok (.anewarray idx, 3)) (k : Go M Q (pc + 3) L (.ref n :: S) (n + 1, I, J, R) (cc + 1) (zz + N)) : Go M Q pc L (.int (nI N) :: S) (n, I, J, R) cc zz := by
  intro D ty b p l e s mm args below meth c C H locs ls hl hH hS
  have hK := C.2.2.2.2.2.2.2.2.1.1
  rw [← nw_e hz] at k
  have hcN : (nI N).toNatClampNeg = N := nI_clamp (by omega)
  have hsz : H.size = b.1 + n := hH.2
  refine W.anew C.1 C.2.1 C.2.2.2.2.1 (cx_w C hcl) (va_AO.use C.2.2.2.2.2.2.2.2.1.2.2.1) rfl d rfl (nI_nn hN) (by rw [hcN]; omega) hcap.1 (by rw [hcN]; exact hcap.2) fun cA kA comp f1 f2 f3 f4 => ?_
  obtain ⟨kA', comp', -, -, -, g4⟩ := (hK.2 4 _ rfl).2
  have hcA : cA = ty 4 := Option.some.inj (f1.symm.trans g4)
  subst hcA
  rw [hcN, hsz]
  generalize hH1 : H.push ({ cls := ty 4, slots := Array.replicate N .null, vm := .none } : Cell) = H1
  have z1 : H1.size = H.size + 1 := by rw [← hH1, Array.size_push]
  have e1 : H1[H.size]? = some (arrV (ty 4) N (fun _ => .null)) := by rw [← hH1, Array.getElem?_push_size, ← arrV_new]
  have o1 : ∀ q : Nat, q < H.size → H1[q]? = H[q]? := fun q hq => by rw [← hH1, Array.getElem?_push, if_neg (Nat.ne_of_lt hq)]
  refine k D ty b p l e s mm args below meth c C H1 locs ls hl (hd_nw hH (ce_q hs) (by rw [z1, hsz]) (fun q hq => o1 q hq) ?_) ⟨Nat.le_trans hS.1 (by rw [z1]; exact Nat.le_succ _), fun x h1 h2 => (o1 x (by have := hS.1; omega)).trans (hS.2.1 x h1 h2), hS.2.2⟩
  show H1[b.1 + n]? = some (vp_cell (ty 4) (N, .inr (.inr (.inr (.inr (fun k => (gR (nw (n, I, J, R)) n k).map (fun x => b.1 + x)))))))
  rw [show gR (nw (n, I, J, R)) n = fun _ => none from nwR (m := (n, I, J, R)), vp_cell_q, ← hsz]
  exact e1
theorem go_newE {n idx ci : Nat} (hz : Zr n I J R) (hcl : Cond.classLink M.y.cls idx (clC ci) ∈ good_tbl) (hci : ci < 13) (hins : Cond.instantiable (clC ci) (clN ci) ∈ good_tbl) (hini : Cond.initialized (clC ci) ∈ good_tbl) (hsh : SH n = (0, ci)) (hcap : cc + 1 ≤ M.mc ∧ zz + clN ci ≤ M.ms) (d : decode M.b pc = .ok (.new idx, 3)) (k : Go M Q (pc + 3) L (.ref n :: S) (n + 1, I, J, va_up R n (fun _ => none)) (cc + 1) (zz + clN ci)) : Go M Q pc L S (n, I, J, R) cc zz := by
  rw [up_id (hz n (Nat.le_refl _)).2.2, ← nw_e hz] at k
  exact go_new (m := (n, I, J, R)) hcl hci hins hini hsh hcap d k
theorem go_putE {n a idx ci k q : Nat} {r : Nat → Option Nat} (f : LkF M.y.cls idx ci k) (ht : isRf (clTy ci k) = true) (hfin : FinOk M idx ci k) (hs : SH a = (0, ci)) (hlt : a < n) (d : decode M.b pc = .ok (.putfield idx, 3)) (kk : Go M Q (pc + 3) L S (n, I, J, va_up R a (va_up r k (some q))) cc zz) : Go M Q pc L (.ref q :: .ref a :: S) (n, I, J, va_up R a r) cc zz := by
  refine go_putR f ht hfin ⟨hs, hlt⟩ d ?_
  rw [show sR (n, I, J, va_up R a r) a (va_up (gR (n, I, J, va_up R a r) a) k (some q)) = (n, I, J, va_up R a (va_up r k (some q))) by
    show (n, I, J, va_up (va_up R a r) a (va_up (va_up R a r a) k (some q))) = _
    rw [up_s, up_up]]
  exact kk
theorem go_putO {n a o idx ci k q : Nat} {r T : Nat → Option Nat} (f : LkF M.y.cls idx ci k) (ht : isRf (clTy ci k) = true) (hfin : FinOk M idx ci k) (hs : SH a = (0, ci)) (hlt : a < n) (ho : o ≠ a) (d : decode M.b pc = .ok (.putfield idx, 3)) (kk : Go M Q (pc + 3) L S (n, I, J, va_up (va_up R o T) a (va_up r k (some q))) cc zz) : Go M Q pc L (.ref q :: .ref a :: S) (n, I, J, va_up (va_up R a r) o T) cc zz := by
  rw [up_sw ho]
  exact go_putE f ht hfin hs hlt d kk
end CROWS
/-- the kinds of the places from a on -/
abbrev SHs (a : Nat) (l : List (Nat × Nat)) : Prop := ∀ k (h : k < l.length), SH (a + k) = l[k]
