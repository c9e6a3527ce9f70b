theorem gI_s {m : Me} {a : Nat} {r : Nat → Int32} : gI (sI m a r) a = r := up_s
theorem gI_n {m : Me} {a x : Nat} {r : Nat → Int32} (h : x ≠ a) : gI (sI m a r) x = gI m x := up_n h
theorem gJ_s {m : Me} {a : Nat} {r : Nat → Int64} : gJ (sJ m a r) a = r := up_s
theorem gJ_n {m : Me} {a x : Nat} {r : Nat → Int64} (h : x ≠ a) : gJ (sJ m a r) x = gJ m x := up_n h
theorem gR_s {m : Me} {a : Nat} {r : Nat → Option Nat} : gR (sR m a r) a = r := up_s
theorem gR_n {m : Me} {a x : Nat} {r : Nat → Option Nat} (h : x ≠ a) : gR (sR m a r) x = gR m x := up_n h
section GOHEAP
variable {M : MD} {Q : Option Value → Me → Prop} {pc : Nat} {L : List (Option Value)} {S : List Value} {m : Me} {cc zz : Nat}
theorem cl_in {ci : Nat} (h : ci < 13) : ∀ w ∈ u_ws (clC ci) (clT ci) (clN ci), w ∈ good_tbl := by
  rcases (show ci = 0 ∨ ci = 1 ∨ ci = 2 ∨ ci = 3 ∨ ci = 4 ∨ ci = 5 ∨ ci = 6 ∨ ci = 7 ∨ ci = 8 ∨ ci = 9 ∨ ci = 10 ∨ ci = 11 ∨ ci = 12 by omega) with h | h | h | h | h | h | h | h | h | h | h | h | h <;> subst h <;> first | exact inG0 | exact inG1 | exact inG2 | exact inG3 | exact inG4 | exact inG5 | exact inG6 | exact inG7 | exact inG8 | exact inG9 | exact inG10 | exact inG11 | exact inG12
theorem cl_inM {ci : Nat} (h : ci < 13) : ∀ w ∈ u_ws (clC ci) (clT ci) (clN ci), w ∈ wsm M := fun w hw => List.mem_cons_of_mem _ (cl_in h w hw)
theorem ce_o {b : Bs} {ty : Nat → ClassId} {m : Me} {a ci : Nat} (h : SH a = (0, ci)) : ce b ty m a = .inr (ci, fl b m a ci) := by unfold ce; rw [h]; rfl
theorem ce_i {b : Bs} {ty : Nat → ClassId} {m : Me} {a n : Nat} (h : SH a = (1, n)) : ce b ty m a = .inl (ty 0, n, .inl (gI m a)) := by unfold ce; rw [h]; rfl
theorem ce_b {b : Bs} {ty : Nat → ClassId} {m : Me} {a n : Nat} (h : SH a = (2, n)) : ce b ty m a = .inl (ty 1, n, .inl (gI m a)) := by unfold ce; rw [h]; rfl
theorem ce_z {b : Bs} {ty : Nat → ClassId} {m : Me} {a n : Nat} (h : SH a = (3, n)) : ce b ty m a = .inl (ty 2, n, .inl (gI m a)) := by unfold ce; rw [h]; rfl
theorem ce_l {b : Bs} {ty : Nat → ClassId} {m : Me} {a n : Nat} (h : SH a = (4, n)) : ce b ty m a = .inl (ty 3, n, .inr (.inl (gJ m a))) := by unfold ce; rw [h]; rfl
theorem ce_q {b : Bs} {ty : Nat → ClassId} {m : Me} {a n : Nat} (h : SH a = (5, n)) : ce b ty m a = .inl (ty 4, n, .inr (.inr (.inr (.inr (fun k => (gR m a k).map (fun x => b.1 + x)))))) := by unfold ce; rw [h]; rfl
theorem fl_at {b : Bs} {m : Me} {a ci k : Nat} (hk : k < clN ci) : (fl b m a ci)[k]? = some (fv b m a k (clTy ci k)) := by
  unfold fl
  rw [List.getElem?_map, List.getElem?_range hk]
  rfl
theorem fl_len {b : Bs} {m : Me} {a ci : Nat} : (fl b m a ci).length = clN ci := by simp [fl]
theorem fl_set {b : Bs} {m m' : Me} {a ci k : Nat} {v : Value} (hk : k < clN ci) (hv : fv b m' a k (clTy ci k) = v) (ho : ∀ x, x ≠ k → gI m' a x = gI m a x ∧ gJ m' a x = gJ m a x ∧ gR m' a x = gR m a x) : (fl b m a ci).set k v = fl b m' a ci := by
  apply List.ext_getElem?
  intro i
  by_cases hi : i = k
  · subst hi
    rw [List.getElem?_set_self (by rw [fl_len]; exact hk), fl_at hk, hv]
  · rw [List.getElem?_set_ne (Ne.symm hi)]
    by_cases hl : i < clN ci
    · rw [fl_at hl, fl_at hl]
      congr 1
      obtain ⟨h1, h2, h3⟩ := ho i hi
      unfold fv
      rw [h1, h2, h3]
    · rw [List.getElem?_eq_none (by rw [fl_len]; omega), List.getElem?_eq_none (by rw [fl_len]; omega)]
/-- getfield, any type -/
theorem go_get {a idx ci k : Nat} {v : Value} (f : LkF M.y.cls idx ci k) (hs : Is m.1 a (0, ci)) (hv : ∀ b, fv b m a k (clTy ci k) = cv b v) (d : decode M.b pc = .ok (.getfield idx, 3)) (kk : Go M Q (pc + 3) L (v :: S) m cc zz) : Go M Q pc L (.ref a :: S) m cc zz := by
  intro D ty b p l e s mm args below meth c C H locs ls hl hH hS
  obtain ⟨c1, c2, c3, c4, c5, c6, c7, c8, c9, c10⟩ := id C
  obtain ⟨f1, f2, f3⟩ := f
  have ha := wo_at (b := b) (ty := ty) hs.2
  rw [ce_o hs.1] at ha
  have kk := kk D ty b p l e s mm args below meth c C H locs ls hl hH hS
  have hf := fl_at (b := b) (m := m) (a := a) f2
  rw [hv b] at hf
  rcases f3 with f3 | ⟨host, f3⟩
  · exact va_get (C := clC ci) (T := clT ci) (N := clN ci) c1 c2 c6 (cl_inM f1) c5 c9.1 hH.1 a ha (cl_at f1) k f2 (c6 _ (List.mem_cons_of_mem _ f3)) (fun _ h => h) hf d kk
  · exact va_getN (C := clC ci) (T := clT ci) (N := clN ci) c1 c2 c6 (cl_inM f1) c5 c9.1 hH.1 a ha (cl_at f1) k f2 (va_Nw.use rfl (c9.2.1 _ f3)) (fun _ h => h) hf d kk
theorem go_getI {a idx ci k : Nat} (f : LkF M.y.cls idx ci k) (ht : clTy ci k = .int) (hs : Is m.1 a (0, ci)) (d : decode M.b pc = .ok (.getfield idx, 3)) (kk : Go M Q (pc + 3) L (.int (gI m a k) :: S) m cc zz) : Go M Q pc L (.ref a :: S) m cc zz := go_get f hs (fun b => by rw [ht]; rfl) d kk
theorem go_getZ {a idx ci k : Nat} (f : LkF M.y.cls idx ci k) (ht : clTy ci k = .boolean) (hs : Is m.1 a (0, ci)) (d : decode M.b pc = .ok (.getfield idx, 3)) (kk : Go M Q (pc + 3) L (.int (gI m a k) :: S) m cc zz) : Go M Q pc L (.ref a :: S) m cc zz := go_get f hs (fun b => by rw [ht]; rfl) d kk
theorem go_getJ {a idx ci k : Nat} (f : LkF M.y.cls idx ci k) (ht : clTy ci k = .long) (hs : Is m.1 a (0, ci)) (d : decode M.b pc = .ok (.getfield idx, 3)) (kk : Go M Q (pc + 3) L (.long (gJ m a k) :: S) m cc zz) : Go M Q pc L (.ref a :: S) m cc zz := go_get f hs (fun b => by rw [ht]; rfl) d kk
def isRf : FieldType → Bool
  | .object _ => true
  | .array _ => true
  | _ => false
theorem fv_rf {b : Bs} {m : Me} {a k : Nat} {ty : FieldType} (h : isRf ty = true) : fv b m a k ty = va_rf ((gR m a k).map (fun x => b.1 + x)) := by
  cases ty <;> first | rfl | (simp [isRf] at h)
theorem go_getR {a idx ci k r : Nat} (f : LkF M.y.cls idx ci k) (ht : isRf (clTy ci k) = true) (hs : Is m.1 a (0, ci)) (hr : gR m a k = some r) (d : decode M.b pc = .ok (.getfield idx, 3)) (kk : Go M Q (pc + 3) L (.ref r :: S) m cc zz) : Go M Q pc L (.ref a :: S) m cc zz := go_get f hs (fun b => by rw [fv_rf ht, hr]; rfl) d kk
/-- putfield -/
theorem go_put {a idx ci k : Nat} {v : Value} {m' : Me} (f : LkF M.y.cls idx ci k) (hs : Is m.1 a (0, ci)) (hfin : (clT ci k).2.2.2 = false ∨ ((clT ci k).2.2.2 = true ∧ M.y.name = "<init>" ∧ (clT ci k).1 = M.y.cls ∧ Cond.fieldLink M.y.cls idx (clT ci k).1 (clT ci k).2.1 (clT ci k).2.2.1 ∈ good_tbl)) (hnf : ∀ b, narrow (clTy ci k) (cv b v) = cv b v ∧ fits (clTy ci k) (cv b v) = true) (hm : m'.1 = m.1) (hv : ∀ b, fv b m' a k (clTy ci k) = cv b v) (hx : ∀ x, x ≠ k → gI m' a x = gI m a x ∧ gJ m' a x = gJ m a x ∧ gR m' a x = gR m a x) (ho : ∀ x, x ≠ a → gI m' x = gI m x ∧ gJ m' x = gJ m x ∧ gR m' x = gR m x) (d : decode M.b pc = .ok (.putfield idx, 3)) (kk : Go M Q (pc + 3) L S m' cc zz) : Go M Q pc L (v :: .ref a :: S) m cc zz := by
  intro D ty b p l e s mm args below meth c C H locs ls hl hH hS
  obtain ⟨c1, c2, c3, c4, c5, c6, c7, c8, c9, c10⟩ := id C
  obtain ⟨f1, f2, f3⟩ := f
  have ha := wo_at (b := b) (ty := ty) hs.2
  rw [ce_o hs.1] at ha
  have hset : (wo b ty m).set a (b.1 + a, .inr (ci, (fl b m a ci).set k (cv b v))) = wo b ty m' := wo_set hs.2 hm (by rw [ce_o hs.1, fl_set f2 (hv b) hx]) (fun x hxa => ce_ne (ho x hxa).1 (ho x hxa).2.1 (ho x hxa).2.2)
  have hc := cl_at f1
  have hts := c6
  have hin := cl_inM (M := M) f1
  have hap := va_apart (own := M.y.cls) hts hin (clTy ci) (cl_ty f1) (cl_nm f1) c9.1 hc
  obtain ⟨r, h1, cell, q1, q2, q3, q4⟩ := hH.1 a _ ha
  have hr : r = (clC ci, clT ci, clN ci) := Option.some.inj (h1.symm.trans hc)
  subst hr
  obtain ⟨hSl, hfc, kC, hkC, hkind⟩ := c9.1.1 ci _ hc
  obtain ⟨cf, kf, fi, fd, hi, hsl⟩ := hSl k f2
  have hlay := hts _ (hin _ (u_in_lay f2))
  have hst := (u_facts hfc hkC (u_lays hts hin f2) hi).1
  have hD := wo_D (b := b) (ty := ty) (m := m) (A := fun q => b.1 ≤ q) (fun _ h => h)
  have fin : ∀ H' : Heap, H'[b.1 + a]? = some (cell.setSlot fd.slot (cv b v)) → H'.size = H.size → (∀ q, q ≠ b.1 + a → H'[q]? = H[q]?) → W p l e (rom M) s mm args below meth c H' (locs ++ [⟨b.1 + a, fd.slot⟩]) cc zz (MQ below (Qcc Q D ty b) args s M.mc M.ms (fun q => b.1 ≤ q)) (F0 mm (pc + 3) ls (S.map (cv b))) := by
    intro H' e1 e2 e3
    rw [hsl] at e1
    refine kk D ty b p l e s mm args below meth c C H' _ ls hl ⟨?_, by rw [e2, hH.2, hm]⟩ (hS.put e2 e3 (Nat.le_add_right _ _))
    rw [← hset]
    exact hH.1.set hD ha ⟨_, hc, t_OB.to (V := updV (vp_V (fl b m a ci)) k (cv b v)) ⟨_, e1, q2, q3, t_set q4 hap f2 (cv b v)⟩ (fun j _ => vp_updV_set (by rw [fl_len]; exact f2) (cv b v) j)⟩ e3
  have hhas : fd.slot < cell.slots.size := by rw [hsl]; exact k2_hasslot (q4 k f2)
  unfold u_lay at hlay
  rcases hfin with hfin | ⟨hfin, hn, hcl, flk⟩
  · rw [if_neg (by rw [hfin]; decide)] at hlay
    have h6 := u_store hfc hkC hkind hlay hi (cl_ty f1 k f2) (hnf b).1 (hnf b).2
    rcases f3 with f3 | ⟨host, f3⟩
    · exact W.putK c1 c2 (f := fd) ⟨c5, c6 _ (List.mem_cons_of_mem _ f3), ⟨_, _, _, hi⟩, hst⟩ (by rw [q2]; exact h6) q1 q3 hhas rfl rfl d fin
    · exact va_WputK c1 c2 (f := fd) c5 (va_Nw.use rfl (c9.2.1 _ f3)) hi hst (by rw [q2]; exact h6) q1 q3 hhas rfl rfl d fin
  · rw [if_pos hfin] at hlay
    have hcf : mm.cls = cf := by
      obtain ⟨_, _, c', _, _, _, -, -, hf', -, -, -, hown2, -⟩ := Cond.laysFinal_spec hlay
      have e1 : c' = cf := by have := hi.symm.trans hf'; simp at this; exact this.1.symm
      rw [hcl] at hown2
      rw [← e1]; exact Option.some.inj (c5.symm.trans hown2)
    have h6 := u_fits hfc hkC hkind (Or.inr hlay) hi (cl_ty f1 k f2) (hnf b).1 (hnf b).2
    exact W.putFinK c1 c2 c5 (c6 _ (List.mem_cons_of_mem _ flk)) hi hst hcf (by rw [c8]; exact hn) (by rw [q2]; exact h6) q1 q3 hhas rfl rfl d fin
theorem go_putI {a idx ci k : Nat} {x : Int32} (f : LkF M.y.cls idx ci k) (ht : clTy ci k = .int) (hfin : FinOk M idx ci k) (hs : Is m.1 a (0, ci)) (d : decode M.b pc = .ok (.putfield idx, 3)) (kk : Go M Q (pc + 3) L S (sI m a (upd (gI m a) k x)) cc zz) : Go M Q pc L (.int x :: .ref a :: S) m cc zz := by
  refine go_put (m' := sI m a (upd (gI m a) k x)) f hs hfin (fun b => ⟨by rw [ht]; rfl, by rw [ht]; rfl⟩) rfl (fun b => ?_) (fun y hy => ⟨?_, rfl, rfl⟩) (fun y hy => ⟨gI_n hy, rfl, rfl⟩) d kk
  · rw [ht]
    show Value.int (gI _ a k) = _
    rw [gI_s, upd, if_pos rfl]; rfl
  · rw [gI_s, upd, if_neg hy]
theorem go_putZ {a idx ci k : Nat} {x : Int32} (f : LkF M.y.cls idx ci k) (ht : clTy ci k = .boolean) (hx : narrow .boolean (.int x) = .int x ∧ fits .boolean (.int x) = true) (hfin : FinOk M idx ci k) (hs : Is m.1 a (0, ci)) (d : decode M.b pc = .ok (.putfield idx, 3)) (kk : Go M Q (pc + 3) L S (sI m a (upd (gI m a) k x)) cc zz) : Go M Q pc L (.int x :: .ref a :: S) m cc zz := by
  refine go_put (m' := sI m a (upd (gI m a) k x)) f hs hfin (fun b => ⟨by rw [ht]; exact hx.1, by rw [ht]; exact hx.2⟩) rfl (fun b => ?_) (fun y hy => ⟨?_, rfl, rfl⟩) (fun y hy => ⟨gI_n hy, rfl, rfl⟩) d kk
  · rw [ht]
    show Value.int (gI _ a k) = _
    rw [gI_s, upd, if_pos rfl]; rfl
  · rw [gI_s, upd, if_neg hy]
theorem go_putJ {a idx ci k : Nat} {x : Int64} (f : LkF M.y.cls idx ci k) (ht : clTy ci k = .long) (hfin : FinOk M idx ci k) (hs : Is m.1 a (0, ci)) (d : decode M.b pc = .ok (.putfield idx, 3)) (kk : Go M Q (pc + 3) L S (sJ m a (vp_updL (gJ m a) k x)) cc zz) : Go M Q pc L (.long x :: .ref a :: S) m cc zz := by
  refine go_put (m' := sJ m a (vp_updL (gJ m a) k x)) f hs hfin (fun b => ⟨by rw [ht]; rfl, by rw [ht]; rfl⟩) rfl (fun b => ?_) (fun y hy => ⟨rfl, ?_, rfl⟩) (fun y hy => ⟨rfl, gJ_n hy, rfl⟩) d kk
  · rw [ht]
    show Value.long (gJ _ a k) = _
    rw [gJ_s, vp_updL, if_pos rfl]; rfl
  · rw [gJ_s, vp_updL, if_neg hy]
theorem go_putR {a idx ci k r : Nat} (f : LkF M.y.cls idx ci k) (ht : isRf (clTy ci k) = true) (hfin : FinOk M idx ci k) (hs : Is m.1 a (0, ci)) (d : decode M.b pc = .ok (.putfield idx, 3)) (kk : Go M Q (pc + 3) L S (sR m a (va_up (gR m a) k (some r))) cc zz) : Go M Q pc L (.ref r :: .ref a :: S) m cc zz := by
  refine go_put (m' := sR m a (va_up (gR m a) k (some r))) f hs hfin (fun b => ?_) rfl (fun b => ?_) (fun y hy => ⟨rfl, rfl, ?_⟩) (fun y hy => ⟨rfl, rfl, gR_n hy⟩) d kk
  · generalize clTy ci k = tt at ht
    cases tt <;> first | exact ⟨rfl, rfl⟩ | (simp [isRf] at ht)
  · rw [fv_rf ht, gR_s, up_s]; rfl
  · rw [gR_s, up_n hy]
/-! arrays -/
theorem go_iald {a n j : Nat} {i : Int32} (hs : Is m.1 a (1, n)) (hj : j < n) (hn : n < 2 ^ 31) (hi : i = nI j) (d : decode M.b pc = .ok (.iaload, 1)) (kk : Go M Q (pc + 1) L (.int (gI m a j) :: S) m cc zz) : Go M Q pc L (.int i :: .ref a :: S) m cc zz := by
  intro D ty b p l e s mm args below meth c C H locs ls hl hH hS
  have ha := wo_at (b := b) (ty := ty) hs.2
  rw [ce_i hs.1] at ha
  subst hi
  refine va_iald C.1 C.2.1 C.2.2.2.2.2.2.2.2.1.1 hH.1 a 0 ha rfl (vp_in_nI hj hn) d ?_
  rw [nI_clamp (by omega)]
  exact kk D ty b p l e s mm args below meth c C H locs ls hl hH hS
theorem go_bald {a n j : Nat} {i : Int32} (hs : Is m.1 a (2, n)) (hj : j < n) (hn : n < 2 ^ 31) (hi : i = nI j) (d : decode M.b pc = .ok (.baload, 1)) (kk : Go M Q (pc + 1) L (.int (gI m a j) :: S) m cc zz) : Go M Q pc L (.int i :: .ref a :: S) m cc zz := by
  intro D ty b p l e s mm args below meth c C H locs ls hl hH hS
  have ha := wo_at (b := b) (ty := ty) hs.2
  rw [ce_b hs.1] at ha
  subst hi
  refine va_bald C.1 C.2.1 C.2.2.2.2.2.2.2.2.1.1 hH.1 a 1 ha rfl (vp_in_nI hj hn) d ?_
  rw [nI_clamp (by omega)]
  exact kk D ty b p l e s mm args below meth c C H locs ls hl hH hS
theorem go_zald {a n j : Nat} {i : Int32} (hs : Is m.1 a (3, n)) (hj : j < n) (hn : n < 2 ^ 31) (hi : i = nI j) (d : decode M.b pc = .ok (.baload, 1)) (kk : Go M Q (pc + 1) L (.int (gI m a j) :: S) m cc zz) : Go M Q pc L (.int i :: .ref a :: S) m cc zz := by
  intro D ty b p l e s mm args below meth c C H locs ls hl hH hS
  have ha := wo_at (b := b) (ty := ty) hs.2
  rw [ce_z hs.1] at ha
  subst hi
  refine va_zald C.1 C.2.1 C.2.2.2.2.2.2.2.2.1.1 hH.1 a 2 ha rfl (vp_in_nI hj hn) d ?_
  rw [nI_clamp (by omega)]
  exact kk D ty b p l e s mm args below meth c C H locs ls hl hH hS
theorem go_lald {a n j : Nat} {i : Int32} (hs : Is m.1 a (4, n)) (hj : j < n) (hn : n < 2 ^ 31) (hi : i = nI j) (d : decode M.b pc = .ok (.laload, 1)) (kk : Go M Q (pc + 1) L (.long (gJ m a j) :: S) m cc zz) : Go M Q pc L (.int i :: .ref a :: S) m cc zz := by
  intro D ty b p l e s mm args below meth c C H locs ls hl hH hS
  have ha := wo_at (b := b) (ty := ty) hs.2
  rw [ce_l hs.1] at ha
  subst hi
  refine va_lald C.1 C.2.1 C.2.2.2.2.2.2.2.2.1.1 hH.1 a 3 ha rfl (vp_in_nI hj hn) d ?_
  rw [nI_clamp (by omega)]
  exact kk D ty b p l e s mm args below meth c C H locs ls hl hH hS
theorem go_aald {a n j r : Nat} {i : Int32} (hs : Is m.1 a (5, n)) (hj : j < n) (hn : n < 2 ^ 31) (hi : i = nI j) (hr : gR m a j = some r) (d : decode M.b pc = .ok (.aaload, 1)) (kk : Go M Q (pc + 1) L (.ref r :: S) m cc zz) : Go M Q pc L (.int i :: .ref a :: S) m cc zz := by
  intro D ty b p l e s mm args below meth c C H locs ls hl hH hS
  have ha := wo_at (b := b) (ty := ty) hs.2
  rw [ce_q hs.1] at ha
  subst hi
  refine va_aldq C.1 C.2.1 C.2.2.2.2.2.2.2.2.1.1 hH.1 a 4 ha rfl (vp_in_nI hj hn) d ?_
  rw [nI_clamp (by omega), hr]
  exact kk D ty b p l e s mm args below meth c C H locs ls hl hH hS
theorem go_alenI {a n : Nat} (hs : Is m.1 a (1, n)) (d : decode M.b pc = .ok (.arraylength, 1)) (kk : Go M Q (pc + 1) L (.int (nI n) :: S) m cc zz) : Go M Q pc L (.ref a :: S) m cc zz := by
  intro D ty b p l e s mm args below meth c C H locs ls hl hH hS
  have ha := wo_at (b := b) (ty := ty) hs.2
  rw [ce_i hs.1] at ha
  exact va_alen C.1 C.2.1 C.2.2.2.2.2.2.2.2.1.1 hH.1 a 0 ha rfl rfl d (kk D ty b p l e s mm args below meth c C H locs ls hl hH hS)
theorem ar_in {j n : Nat} {cA : ClassId} {f : Nat → Value} (hj : j < n) (hn : n < 2 ^ 31) : ¬ (nI j < 0 ∨ (arrV cA n f).slots.size ≤ (nI j).toNatClampNeg) := by
  rw [arrV_size]
  exact vp_in_nI hj hn
theorem go_iast {a n j : Nat} {i x : Int32} (hs : Is m.1 a (1, n)) (hj : j < n) (hn : n < 2 ^ 31) (hi : i = nI j) (d : decode M.b pc = .ok (.iastore, 1)) (kk : Go M Q (pc + 1) L S (sI m a (upd (gI m a) j x)) cc zz) : Go M Q pc L (.int x :: .int i :: .ref a :: S) m cc zz := by
  intro D ty b p l e s mm args below meth c C H locs ls hl hH hS
  have ha := wo_at (b := b) (ty := ty) hs.2
  rw [ce_i hs.1] at ha
  subst hi
  have hset : (wo b ty m).set a (b.1 + a, .inl (ty 0, n, .inl (upd (gI m a) j x))) = wo b ty (sI m a (upd (gI m a) j x)) := wo_set hs.2 rfl (by rw [ce_i hs.1, gI_s]) (fun y hy => ce_sI hy)
  have hD := wo_D (b := b) (ty := ty) (m := m) (A := fun q => b.1 ≤ q) (fun _ h => h)
  refine W.iast C.1 C.2.1 (hH.1 a _ ha) ((C.2.2.2.2.2.2.2.2.1.1.2 0 _ rfl).1 n (fun j => .int (gI m a j))) (fun q => by cases q) (ar_in hj hn) rfl rfl d fun H1 e1 z oq => ?_
  refine kk D ty b p l e s mm args below meth c C H1 _ ls hl ⟨?_, by rw [z, hH.2]; rfl⟩ (hS.put z oq (Nat.le_add_right _ _))
  rw [← hset]
  refine hH.1.set hD ha ?_ oq
  show H1[b.1 + a]? = some (vp_cell _ _)
  rw [e1, nI_clamp (by omega)]
  show some (Cell.setSlot (arrV _ _ _) _ _) = _
  rw [vp_cell_i, arrV_store]
  congr 2
  funext q
  by_cases hq : q = j
  · subst hq; simp [updV, upd]
  · simp [updV, upd, hq]
theorem go_bast {a n j : Nat} {i x : Int32} (hs : Is m.1 a (2, n)) (hj : j < n) (hn : n < 2 ^ 31) (hi : i = nI j) (d : decode M.b pc = .ok (.bastore, 1)) (kk : Go M Q (pc + 1) L S (sI m a (upd (gI m a) j x.toInt8.toInt32)) cc zz) : Go M Q pc L (.int x :: .int i :: .ref a :: S) m cc zz := by
  intro D ty b p l e s mm args below meth c C H locs ls hl hH hS
  have ha := wo_at (b := b) (ty := ty) hs.2
  rw [ce_b hs.1] at ha
  subst hi
  have hset : (wo b ty m).set a (b.1 + a, .inl (ty 1, n, .inl (upd (gI m a) j x.toInt8.toInt32))) = wo b ty (sI m a (upd (gI m a) j x.toInt8.toInt32)) := wo_set hs.2 rfl (by rw [ce_b hs.1, gI_s]) (fun y hy => ce_sI hy)
  have hD := wo_D (b := b) (ty := ty) (m := m) (A := fun q => b.1 ≤ q) (fun _ h => h)
  refine W.bast C.1 C.2.1 (hH.1 a _ ha) ((C.2.2.2.2.2.2.2.2.1.1.2 1 _ rfl).1 n (fun j => .int (gI m a j))) (fun q => by cases q) (ar_in hj hn) rfl rfl d fun H1 e1 z oq => ?_
  refine kk D ty b p l e s mm args below meth c C H1 _ ls hl ⟨?_, by rw [z, hH.2]; rfl⟩ (hS.put z oq (Nat.le_add_right _ _))
  rw [← hset]
  refine hH.1.set hD ha ?_ oq
  show H1[b.1 + a]? = some (vp_cell _ _)
  rw [e1, nI_clamp (by omega)]
  show some (Cell.setSlot (arrV _ _ _) _ _) = _
  rw [vp_cell_i, arrV_store]
  congr 2
  funext q
  by_cases hq : q = j
  · subst hq; simp [updV, upd, narrow]
  · simp [updV, upd, hq]
theorem go_zast {a n j : Nat} {i x : Int32} (hs : Is m.1 a (3, n)) (hj : j < n) (hn : n < 2 ^ 31) (hi : i = nI j) (hx : narrow .boolean (.int x) = .int x) (d : decode M.b pc = .ok (.bastore, 1)) (kk : Go M Q (pc + 1) L S (sI m a (upd (gI m a) j x)) cc zz) : Go M Q pc L (.int x :: .int i :: .ref a :: S) m cc zz := by
  intro D ty b p l e s mm args below meth c C H locs ls hl hH hS
  have ha := wo_at (b := b) (ty := ty) hs.2
  rw [ce_z hs.1] at ha
  subst hi
  have hset : (wo b ty m).set a (b.1 + a, .inl (ty 2, n, .inl (upd (gI m a) j x))) = wo b ty (sI m a (upd (gI m a) j x)) := wo_set hs.2 rfl (by rw [ce_z hs.1, gI_s]) (fun y hy => ce_sI hy)
  have hD := wo_D (b := b) (ty := ty) (m := m) (A := fun q => b.1 ≤ q) (fun _ h => h)
  refine W.zast C.1 C.2.1 (hH.1 a _ ha) ((C.2.2.2.2.2.2.2.2.1.1.2 2 _ rfl).1 n (fun j => .int (gI m a j))) (fun q => by cases q) (ar_in hj hn) rfl rfl d fun H1 e1 z oq => ?_
  refine kk D ty b p l e s mm args below meth c C H1 _ ls hl ⟨?_, by rw [z, hH.2]; rfl⟩ (hS.put z oq (Nat.le_add_right _ _))
  rw [← hset]
  refine hH.1.set hD ha ?_ oq
  show H1[b.1 + a]? = some (vp_cell _ _)
  rw [e1, nI_clamp (by omega), hx]
  show some (Cell.setSlot (arrV _ _ _) _ _) = _
  rw [vp_cell_i, arrV_store]
  congr 2
  funext q
  by_cases hq : q = j
  · subst hq; simp [updV, upd]
  · simp [updV, upd, hq]
theorem go_last {a n j : Nat} {i : Int32} {x : Int64} (hs : Is m.1 a (4, n)) (hj : j < n) (hn : n < 2 ^ 31) (hi : i = nI j) (d : decode M.b pc = .ok (.lastore, 1)) (kk : Go M Q (pc + 1) L S (sJ m a (vp_updL (gJ m a) j x)) cc zz) : Go M Q pc L (.long x :: .int i :: .ref a :: S) m cc zz := by
  intro D ty b p l e s mm args below meth c C H locs ls hl hH hS
  have ha := wo_at (b := b) (ty := ty) hs.2
  rw [ce_l hs.1] at ha
  subst hi
  have hset : (wo b ty m).set a (b.1 + a, .inl (ty 3, n, .inr (.inl (vp_updL (gJ m a) j x)))) = wo b ty (sJ m a (vp_updL (gJ m a) j x)) := wo_set hs.2 rfl (by rw [ce_l hs.1, gJ_s]) (fun y hy => ce_sJ hy)
  have hD := wo_D (b := b) (ty := ty) (m := m) (A := fun q => b.1 ≤ q) (fun _ h => h)
  refine W.last C.1 C.2.1 (hH.1 a _ ha) ((C.2.2.2.2.2.2.2.2.1.1.2 3 _ rfl).1 n (fun j => .long (gJ m a j))) (fun q => by cases q) (ar_in hj hn) rfl rfl d fun H1 e1 z oq => ?_
  refine kk D ty b p l e s mm args below meth c C H1 _ ls hl ⟨?_, by rw [z, hH.2]; rfl⟩ (hS.put z oq (Nat.le_add_right _ _))
  rw [← hset]
  refine hH.1.set hD ha ?_ oq
  show H1[b.1 + a]? = some (vp_cell _ _)
  rw [e1, nI_clamp (by omega)]
  show some (Cell.setSlot (arrV _ _ _) _ _) = _
  rw [vp_cell_l, arrV_store]
  congr 2
  funext q
  by_cases hq : q = j
  · subst hq; simp [updV, vp_updL]
  · simp [updV, vp_updL, hq]
theorem go_aast {a n j r : Nat} {i : Int32} (hs : Is m.1 a (5, n)) (hj : j < n) (hn : n < 2 ^ 31) (hi : i = nI j) (hr : Is m.1 r (0, 1)) (d : decode M.b pc = .ok (.aastore, 1)) (kk : Go M Q (pc + 1) L S (sR m a (va_up (gR m a) j (some r))) cc zz) : Go M Q pc L (.ref r :: .int i :: .ref a :: S) m cc zz := by
  intro D ty b p l e s mm args below meth c C H locs ls hl hH hS
  have ha := wo_at (b := b) (ty := ty) hs.2
  rw [ce_q hs.1] at ha
  have hv := wo_at (b := b) (ty := ty) hr.2
  rw [ce_o hr.1] at hv
  subst hi
  have hset : (wo b ty m).set a (b.1 + a, .inl (ty 4, n, .inr (.inr (.inr (.inr (va_up (fun k => (gR m a k).map (fun x => b.1 + x)) j (some (b.1 + r)))))))) = wo b ty (sR m a (va_up (gR m a) j (some r))) := by
    refine wo_set hs.2 rfl ?_ (fun y hy => ce_sR hy)
    rw [ce_q hs.1, gR_s]
    congr 7
    funext q
    by_cases hq : q = j
    · subst hq; rw [up_s, up_s]; rfl
    · rw [up_n hq, up_n hq]
  have hD := wo_D (b := b) (ty := ty) (m := m) (A := fun q => b.1 ≤ q) (fun _ h => h)
  have hK := C.2.2.2.2.2.2.2.2.1.1
  obtain ⟨r', hr', cellV, g1, g2, g3, -⟩ := hH.1 r _ hv
  have hcls := (hK.1 1 _ (cl_at (by decide))).2
  obtain ⟨kA, comp, k1, k2, k3, -⟩ := (hK.2 4 _ rfl).2
  have hcomp : comp = D.1 1 := Option.some.inj (k3.symm.trans hcls.1)
  subst hcomp
  obtain ⟨kC, hkC, -⟩ := hcls.2
  have hcl : (nI j).toNatClampNeg = j := nI_clamp (by omega)
  refine W.aast C.1 C.2.1 (hH.1 a _ ha) (fun q h => by cases h) (fun h => by cases h) k1 k2 rfl hkC ⟨nI_pos (by omega), by show _ < (arrV _ _ _).slots.size; rw [arrV_size, hcl]; exact hj⟩ g1 (fun q h => by rw [g3] at h; cases h) (by rw [g2]; exact hkC) (by rw [g2]; exact va_assign hcls) rfl rfl d fun H1 e1 z oq => ?_
  refine kk D ty b p l e s mm args below meth c C H1 _ ls hl ⟨?_, by rw [z, hH.2]; rfl⟩ (hS.put z oq (Nat.le_add_right _ _))
  rw [← hset]
  refine hH.1.set hD ha ?_ oq
  show H1[b.1 + a]? = some (vp_cell _ _)
  rw [e1, hcl]
  show some (Cell.setSlot (arrV _ _ _) _ _) = _
  rw [vp_cell_q, arrV_store]
  congr 2
  funext q
  by_cases hq : q = j
  · subst hq; simp [updV, va_up, va_rf]
  · simp [updV, va_up, hq]
end GOHEAP
