/-! rows over the texts of the program: text i is retAddr (2 i), its bytes retAddr (2 i + 1) -/
section GOSTR
variable {M M' : MD} {Q Q' : Option Value → Me → Prop} {pc : Nat} {L : List (Option Value)} {S : List Value} {m : Me} {cc zz : Nat}
theorem cx_tx {D : va_G} {ty : Nat → ClassId} {b : Bs} {p : Program} {s : State} {mm : MethodId} {args : Array Value} {meth : Method} {c : Code} (C : Cx M D ty b p s mm args meth c) : Tx b s s.heap := C.2.2.2.2.2.2.2.2.1.2.2.2
theorem cv_K {b : Bs} {k a : Nat} (h : b.2 k = some a) : cv b (.retAddr k) = .ref a := by
  show va_rf (b.2 k) = _
  rw [h]; rfl
theorem go_ldcT0 (hy : M.y.cls = RX10) (d : decode M.b pc = .ok (.ldc 29, 2)) (k : Go M Q (pc + 2) L (.retAddr (2 * 0) :: S) m cc zz) : Go M Q pc L S m cc zz := by
  intro D ty b p l e s mm args below meth c C H locs ls hl hH hS
  obtain ⟨adK, adV, h4, h5, h6, h7, h8, h9⟩ := cx_tx C
  have kk := k D ty b p l e s mm args below meth c C H locs ls hl hH hS
  rw [List.map_cons, cv_K (h4 0 (by decide)).1] at kk
  have hown := C.2.2.2.2.1
  rw [hy] at hown
  exact va_ldcS C.1 C.2.1 hown h6 d kk
theorem go_ldcT1 (hy : M.y.cls = RX10) (d : decode M.b pc = .ok (.ldc 85, 2)) (k : Go M Q (pc + 2) L (.retAddr (2 * 1) :: S) m cc zz) : Go M Q pc L S m cc zz := by
  intro D ty b p l e s mm args below meth c C H locs ls hl hH hS
  obtain ⟨adK, adV, h4, h5, h6, h7, h8, h9⟩ := cx_tx C
  have kk := k D ty b p l e s mm args below meth c C H locs ls hl hH hS
  rw [List.map_cons, cv_K (h4 1 (by decide)).1] at kk
  have hown := C.2.2.2.2.1
  rw [hy] at hown
  exact va_ldcS C.1 C.2.1 hown h7 d kk
theorem go_sval {i idx : Nat} (hi : i < 2) (hy : M.y.cls = "java/lang/String") (lk : Cond.fieldLink "java/lang/String" idx "java/lang/String" "value" "[B" ∈ good_tbl) (d : decode M.b pc = .ok (.getfield idx, 3)) (k : Go M Q (pc + 3) L (.retAddr (2 * i + 1) :: S) m cc zz) : Go M Q pc L (.retAddr (2 * i) :: S) m cc zz := by
  intro D ty b p l e s mm args below meth c C H locs ls hl hH hS
  obtain ⟨adK, adV, h4, h5, h6, h7, h8, h9⟩ := cx_tx C
  have kk := k D ty b p l e s mm args below meth c C H locs ls hl hH hS
  rw [List.map_cons, cv_K (h4 i hi).2] at kk
  rw [List.map_cons, cv_K (h4 i hi).1]
  have hown := C.2.2.2.2.1
  rw [hy] at hown
  exact vk_getf C.1 C.2.1 (h5.1 i hi).2.2.1 hS hown (cx_w C lk) (fun _ h => h) d kk
theorem go_scod {i idx : Nat} (hi : i < 2) (hy : M.y.cls = "java/lang/String") (lk : Cond.fieldLink "java/lang/String" idx "java/lang/String" "coder" "B" ∈ good_tbl) (d : decode M.b pc = .ok (.getfield idx, 3)) (k : Go M Q (pc + 3) L (.int 0 :: S) m cc zz) : Go M Q pc L (.retAddr (2 * i) :: S) m cc zz := by
  intro D ty b p l e s mm args below meth c C H locs ls hl hH hS
  obtain ⟨adK, adV, h4, h5, h6, h7, h8, h9⟩ := cx_tx C
  have kk := k D ty b p l e s mm args below meth c C H locs ls hl hH hS
  rw [List.map_cons, cv_K (h4 i hi).1]
  have hown := C.2.2.2.2.1
  rw [hy] at hown
  exact vk_getf C.1 C.2.1 (h5.1 i hi).2.1 hS hown (cx_w C lk) (fun _ h => h) d kk
theorem go_sCS {idx : Nat} (hy : M.y.cls = "java/lang/String") (lk : Cond.fieldLink "java/lang/String" idx "java/lang/String" "COMPACT_STRINGS" "Z" ∈ good_tbl) (d : decode M.b pc = .ok (.getstatic idx, 3)) (k : Go M Q (pc + 3) L (.int 1 :: S) m cc zz) : Go M Q pc L S m cc zz := by
  intro D ty b p l e s mm args below meth c C H locs ls hl hH hS
  obtain ⟨adK, adV, h4, h5, h6, h7, h8, h9⟩ := cx_tx C
  have kk := k D ty b p l e s mm args below meth c C H locs ls hl hH hS
  have hown := C.2.2.2.2.1
  rw [hy] at hown
  exact va_gets C.1 C.2.1 h8 hS hown (cx_w C lk) (fun _ h => h) d kk
theorem go_sFM {idx : Nat} (hy : M.y.cls = "java/lang/String") (lk : Cond.fieldLink "java/lang/String" idx "jdk/internal/util/Preconditions" "SIOOBE_FORMATTER" "Ljava/util/function/BiFunction;" ∈ good_tbl) (d : decode M.b pc = .ok (.getstatic idx, 3)) (k : Go M Q (pc + 3) L (.retAddr 100 :: S) m cc zz) : Go M Q pc L S m cc zz := by
  intro D ty b p l e s mm args below meth c C H locs ls hl hH hS
  obtain ⟨adK, adV, h4, h5, h6, h7, h8, h9⟩ := cx_tx C
  have kk := k D ty b p l e s mm args below meth c C H locs ls hl hH hS
  have hown := C.2.2.2.2.1
  rw [hy] at hown
  exact va_gets C.1 C.2.1 h9 hS hown (cx_w C lk) (fun _ h => h) d kk
theorem go_slen {i : Nat} (hi : i < 2) (d : decode M.b pc = .ok (.arraylength, 1)) (k : Go M Q (pc + 1) L (.int (nI (txL.getD i 0)) :: S) m cc zz) : Go M Q pc L (.retAddr (2 * i + 1) :: S) m cc zz := by
  intro D ty b p l e s mm args below meth c C H locs ls hl hH hS
  obtain ⟨adK, adV, h4, h5, h6, h7, h8, h9⟩ := cx_tx C
  have kk := k D ty b p l e s mm args below meth c C H locs ls hl hH hS
  rw [List.map_cons, cv_K (h4 i hi).2]
  exact va_tlen C.1 C.2.1 (h5.1 i hi).2.2.2 hS rfl d kk
theorem go_sbld {i j : Nat} {x : Int32} (hi : i < 2) (hj : j < txL.getD i 0) (hL : txL.getD i 0 < 2 ^ 31) (hx : x = nI j) (d : decode M.b pc = .ok (.baload, 1)) (k : Go M Q (pc + 1) L (.int ((txB.getD i []).getD j 0) :: S) m cc zz) : Go M Q pc L (.int x :: .retAddr (2 * i + 1) :: S) m cc zz := by
  intro D ty b p l e s mm args below meth c C H locs ls hl hH hS
  obtain ⟨adK, adV, h4, h5, h6, h7, h8, h9⟩ := cx_tx C
  have kk := k D ty b p l e s mm args below meth c C H locs ls hl hH hS
  subst hx
  rw [List.map_cons, List.map_cons, cv_K (h4 i hi).2]
  refine va_tb C.1 C.2.1 (h5.1 i hi).2.2.2 hS (vp_in_nI hj hL) ?_ d kk
  rw [nI_clamp (by omega)]
  rfl
theorem go_callT {i idx : Nat} {as St : List Value} (hi : i < 2) (hy : M'.y.cls = "java/lang/String") (ok : OkV M') (lk : LkM M.y.cls idx M') (hrm : RmM M' M) (hE : Ev M' (.retAddr (2 * i) :: as) m Q') (hn : NpM M' as.length) (hst : St = as.reverse ++ .retAddr (2 * i) :: S) (hcat : (S.map (fun v => v.category)).sum ≤ 8) (hcap : cc + M'.mc ≤ M.mc ∧ zz + M'.ms ≤ M.ms) (d : decode M.b pc = .ok (.invokevirtual idx, 3)) (kk : ∀ r m', Q' r m' → Go M Q (pc + 3) L (r.toList ++ S) m' (cc + M'.mc) (zz + M'.ms)) : Go M Q pc L St m cc zz := by
  intro D ty b p l e s mm args below meth c C H locs ls hl hH hS
  obtain ⟨adK, adV, h4, h5, h6, h7, h8, h9⟩ := cx_tx C
  have hv := cv_K (b := b) (h4 i hi).1
  have hrecv := vk_recv h5 hi hS
  have hst2 : St.map (cv b) = (as.map (cv b)).reverse ++ .ref (adK i) :: S.map (cv b) := by rw [hst, List.map_append, List.map_reverse, List.map_cons, hv]
  rw [hst2]
  have hmet := hE.met l D ty b
  rw [List.map_cons, hv] at hmet
  have hp : PreV s H M'.y.cls (adK i) (va_Pc (.ref (adK i) :: as.map (cv b)) (fun U => Hd D ty b m U.heap ∧ Kn D ty b U)) (as.map (cv b)) := ⟨by have := pc_blind (D := D) (ty := ty) (b := b) (m := m) (as := .retAddr (2 * i) :: as); rw [List.map_cons, hv] at this; exact this, by rw [hy]; exact hrecv, fun U hU hW => by have := pc_at (as := .retAddr (2 * i) :: as) C hH hS hU hW; rw [List.map_cons, hv] at this; exact this⟩
  have hW8 : 2 * (F0 mm pc ls ((as.map (cv b)).reverse ++ .ref (adK i) :: S.map (cv b))).monitorRoom + ((S.map (cv b)).map fun v => v.category).sum ≤ 8 := lv_room (by rw [cat_map]; exact hcat)
  rcases lk with lk | ⟨host, lk⟩
  · exact go_after C hl hS (va_runV (cx_fix C) hmet ⟨cx_callB C ok.1 hn hrm lk, cx_w C ok.2.1, cx_w C ok.2.2⟩ hp rfl (by rw [List.length_map]) hl.1 rfl hW8 d hcap) kk
  · exact go_after C hl hS (va_runVN (cx_fix C) hmet ⟨cx_callN C ok.1 hn hrm lk, cx_w C ok.2.1, cx_w C ok.2.2⟩ hp rfl (by rw [List.length_map]) hl.1 rfl hW8 d hcap) kk
end GOSTR
theorem lkVal : Cond.fieldLink "java/lang/String" 9 "java/lang/String" "value" "[B" ∈ good_tbl := (wg8 135 rfl rfl)
theorem lkCod : Cond.fieldLink "java/lang/String" 15 "java/lang/String" "coder" "B" ∈ good_tbl := (wg8 136 rfl rfl)
theorem lkCS : Cond.fieldLink "java/lang/String" 38 "java/lang/String" "COMPACT_STRINGS" "Z" ∈ good_tbl := (wg1 59 rfl rfl)
theorem lkFM : Cond.fieldLink "java/lang/String" 1053 "jdk/internal/util/Preconditions" "SIOOBE_FORMATTER" "Ljava/util/function/BiFunction;" ∈ good_tbl := (wg1 75 rfl rfl)
