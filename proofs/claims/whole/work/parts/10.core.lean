/-! THE ABSTRACT MACHINE: all objects of the class and of the reference lie one behind the other from an address b on; a reference is its place.
What a run sees of them: the ints, longs and references of each place (me: how many cells, ints, longs, references). The kind of each place is fixed (SH). -/
abbrev Me : Type := Nat × (Nat → Nat → Int32) × (Nat → Nat → Int64) × (Nat → Nat → Option Nat)
def gI (m : Me) : Nat → Nat → Int32 := m.2.1
def gJ (m : Me) : Nat → Nat → Int64 := m.2.2.1
def gR (m : Me) : Nat → Nat → Option Nat := m.2.2.2
def sI (m : Me) (a : Nat) (r : Nat → Int32) : Me := (m.1, va_up m.2.1 a r, m.2.2.1, m.2.2.2)
def sJ (m : Me) (a : Nat) (r : Nat → Int64) : Me := (m.1, m.2.1, va_up m.2.2.1 a r, m.2.2.2)
def sR (m : Me) (a : Nat) (r : Nat → Option Nat) : Me := (m.1, m.2.1, m.2.2.1, va_up m.2.2.2 a r)
def nw (m : Me) : Me := (m.1 + 1, va_up m.2.1 m.1 (fun _ => 0), va_up m.2.2.1 m.1 (fun _ => 0), va_up m.2.2.2 m.1 (fun _ => none))
theorem up_s {α : Type} {f : Nat → α} {a : Nat} {r : α} : va_up f a r a = r := if_pos rfl
theorem up_n {α : Type} {f : Nat → α} {a b : Nat} {r : α} (h : b ≠ a) : va_up f a r b = f b := if_neg h
/-- a place of a kind -/
def Is (n a : Nat) (k : Nat × Nat) : Prop := SH a = k ∧ a < n
/-- where the places begin, and the things of the JDK that a run meets: the text i (2 i), its bytes (2 i + 1), a formatter (100) -/
abbrev Bs : Type := Nat × (Nat → Option Nat)
def cv (b : Bs) : Value → Value
  | .ref a => .ref (b.1 + a)
  | .retAddr k => va_rf (b.2 k)
  | v => v
theorem cv_cat (b : Bs) (v : Value) : (cv b v).category = v.category := by
  cases v with
  | retAddr k =>
    show (va_rf (b.2 k)).category = 1
    cases b.2 k <;> rfl
  | _ => rfl
def clTy (ci : Nat) : Nat → FieldType := match ci with
  | 0 => tyX0 | 1 => tyX1 | 2 => tyX2 | 3 => tyX3 | 4 => tyX4 | 5 => tyX5 | 6 => tyX6 | 7 => tyX7 | 8 => tyX8 | 9 => tyX9 | 10 => tyX10 | 11 => tyX11 | _ => tyX12
def clN (ci : Nat) : Nat := match ci with
  | 0 => 5 | 1 => 6 | 2 => 2 | 3 => 4 | 4 => 8 | 5 => 7 | 6 => 3 | 7 => 17 | 8 => 1 | 9 => 2 | 10 => 8 | 11 => 14 | _ => 75
def clC (ci : Nat) : String := match ci with
  | 0 => RX0 | 1 => RX1 | 2 => RX2 | 3 => RX3 | 4 => RX4 | 5 => RX5 | 6 => RX6 | 7 => RX7 | 8 => RX8 | 9 => RX9 | 10 => RX10 | 11 => RX11 | _ => RX12
def clT (ci : Nat) : u_T := match ci with
  | 0 => TX0 | 1 => TX1 | 2 => TX2 | 3 => TX3 | 4 => TX4 | 5 => TX5 | 6 => TX6 | 7 => TX7 | 8 => TX8 | 9 => TX9 | 10 => TX10 | 11 => TX11 | _ => TX12
theorem cl_at {ci : Nat} (h : ci < 13) : vwCl[ci]? = some (clC ci, clT ci, clN ci) := by
  rcases (show ci = 0 ∨ ci = 1 ∨ ci = 2 ∨ ci = 3 ∨ ci = 4 ∨ ci = 5 ∨ ci = 6 ∨ ci = 7 ∨ ci = 8 ∨ ci = 9 ∨ ci = 10 ∨ ci = 11 ∨ ci = 12 by omega) with h | h | h | h | h | h | h | h | h | h | h | h | h <;> subst h <;> rfl
theorem cl_ty {ci : Nat} (h : ci < 13) : ∀ k, k < clN ci → parseFieldDescriptor (clT ci k).2.2.1 = some (clTy ci k) := by
  rcases (show ci = 0 ∨ ci = 1 ∨ ci = 2 ∨ ci = 3 ∨ ci = 4 ∨ ci = 5 ∨ ci = 6 ∨ ci = 7 ∨ ci = 8 ∨ ci = 9 ∨ ci = 10 ∨ ci = 11 ∨ ci = 12 by omega) with h | h | h | h | h | h | h | h | h | h | h | h | h <;> subst h <;> first | exact tyX0_ok | exact tyX1_ok | exact tyX2_ok | exact tyX3_ok | exact tyX4_ok | exact tyX5_ok | exact tyX6_ok | exact tyX7_ok | exact tyX8_ok | exact tyX9_ok | exact tyX10_ok | exact tyX11_ok | exact tyX12_ok
theorem cl_nm {ci : Nat} (h : ci < 13) : ∀ a, a < clN ci → ∀ b, b < clN ci → a ≠ b → (clT ci a).2.1 ≠ (clT ci b).2.1 := by
  rcases (show ci = 0 ∨ ci = 1 ∨ ci = 2 ∨ ci = 3 ∨ ci = 4 ∨ ci = 5 ∨ ci = 6 ∨ ci = 7 ∨ ci = 8 ∨ ci = 9 ∨ ci = 10 ∨ ci = 11 ∨ ci = 12 by omega) with h | h | h | h | h | h | h | h | h | h | h | h | h <;> subst h <;> first | exact nmX0 | exact nmX1 | exact nmX2 | exact nmX3 | exact nmX4 | exact nmX5 | exact nmX6 | exact nmX7 | exact nmX8 | exact nmX9 | exact nmX10 | exact nmX11 | exact nmX12
/-- a field's value -/
def fv (b : Bs) (m : Me) (a k : Nat) (ty : FieldType) : Value := match ty with
  | .int => .int (gI m a k)
  | .boolean => .int (gI m a k)
  | .long => .long (gJ m a k)
  | _ => va_rf ((gR m a k).map (fun x => b.1 + x))
def fl (b : Bs) (m : Me) (a ci : Nat) : List Value := (List.range (clN ci)).map (fun k => fv b m a k (clTy ci k))
/-- a cell -/
def ce (b : Bs) (ty : Nat → ClassId) (m : Me) (a : Nat) : va_E := match SH a with
  | (0, ci) => .inr (ci, fl b m a ci)
  | (1, n) => .inl (ty 0, n, .inl (gI m a))
  | (2, n) => .inl (ty 1, n, .inl (gI m a))
  | (3, n) => .inl (ty 2, n, .inl (gI m a))
  | (4, n) => .inl (ty 3, n, .inr (.inl (gJ m a)))
  | (_, n) => .inl (ty 4, n, .inr (.inr (.inr (.inr (fun k => (gR m a k).map (fun x => b.1 + x))))))
def wo (b : Bs) (ty : Nat → ClassId) (m : Me) : va_W := (List.range m.1).map (fun a => (b.1 + a, ce b ty m a))
theorem wo_at {b : Bs} {ty : Nat → ClassId} {m : Me} {a : Nat} (h : a < m.1) : (wo b ty m)[a]? = some (b.1 + a, ce b ty m a) := by
  unfold wo
  rw [List.getElem?_map, List.getElem?_range h]
  rfl
theorem wo_len {b : Bs} {ty : Nat → ClassId} {m : Me} : (wo b ty m).length = m.1 := by simp [wo]
theorem wo_set {b : Bs} {ty : Nat → ClassId} {m m' : Me} {a : Nat} {e : va_E} (h : a < m.1) (hn : m'.1 = m.1) (he : ce b ty m' a = e) (ho : ∀ x, x ≠ a → ce b ty m' x = ce b ty m x) : (wo b ty m).set a (b.1 + a, e) = wo b ty m' := by
  apply List.ext_getElem?
  intro i
  by_cases hi : i = a
  · subst hi
    rw [List.getElem?_set_self (by rw [wo_len]; exact h), wo_at (by rw [hn]; exact h), he]
  · rw [List.getElem?_set_ne (Ne.symm hi)]
    by_cases hl : i < m.1
    · rw [wo_at hl, wo_at (by rw [hn]; exact hl), ho i hi]
    · rw [List.getElem?_eq_none (by rw [wo_len]; omega), List.getElem?_eq_none (by rw [wo_len]; omega)]
theorem wo_nw {b : Bs} {ty : Nat → ClassId} {m : Me} {e : va_E} (he : ce b ty (nw m) m.1 = e) (ho : ∀ x, x ≠ m.1 → ce b ty (nw m) x = ce b ty m x) : wo b ty m ++ [(b.1 + m.1, e)] = wo b ty (nw m) := by
  unfold wo
  rw [show (nw m).1 = m.1 + 1 from rfl, List.range_succ, List.map_append]
  congr 1
  · apply List.map_congr_left
    intro x hx
    rw [ho x (by have := List.mem_range.mp hx; omega)]
  · simp [he]
theorem wo_D {b : Bs} {ty : Nat → ClassId} {m : Me} {A : Nat → Prop} (hA : ∀ q, b.1 ≤ q → A q) : va_D A (wo b ty m) := by
  have key : ∀ (k : Nat) (q : Nat × va_E), (wo b ty m)[k]? = some q → q.1 = b.1 + k := by
    intro k q hq
    have hl : k < m.1 := by
      have := (List.getElem?_eq_some_iff.mp hq).1
      rw [wo_len] at this
      exact this
    rw [wo_at hl] at hq
    cases hq
    rfl
  refine ⟨fun i j p q hp hq he => ?_, fun k q hq => hA _ ?_⟩
  · have h1 := key i p hp
    have h2 := key j q hq
    omega
  · have h1 := key k q hq
    omega
theorem ce_ne {b : Bs} {ty : Nat → ClassId} {m m' : Me} {a : Nat} (h1 : gI m' a = gI m a) (h2 : gJ m' a = gJ m a) (h3 : gR m' a = gR m a) : ce b ty m' a = ce b ty m a := by
  have hf : ∀ ci, fl b m' a ci = fl b m a ci := fun ci => by
    unfold fl fv
    rw [h1, h2, h3]
  unfold ce
  rw [h1, h2, h3]
  simp only [hf]
theorem ce_sI {b : Bs} {ty : Nat → ClassId} {m : Me} {a x : Nat} {r : Nat → Int32} (h : x ≠ a) : ce b ty (sI m a r) x = ce b ty m x := ce_ne (up_n h) rfl rfl
theorem ce_sJ {b : Bs} {ty : Nat → ClassId} {m : Me} {a x : Nat} {r : Nat → Int64} (h : x ≠ a) : ce b ty (sJ m a r) x = ce b ty m x := ce_ne rfl (up_n h) rfl
theorem ce_sR {b : Bs} {ty : Nat → ClassId} {m : Me} {a x : Nat} {r : Nat → Option Nat} (h : x ≠ a) : ce b ty (sR m a r) x = ce b ty m x := ce_ne rfl rfl (up_n h)
theorem ce_nw {b : Bs} {ty : Nat → ClassId} {m : Me} {x : Nat} (h : x ≠ m.1) : ce b ty (nw m) x = ce b ty m x := ce_ne (up_n h) (up_n h) (up_n h)
/-- the heap holds the memory -/
def Hd (D : va_G) (ty : Nat → ClassId) (b : Bs) (m : Me) (H : Heap) : Prop := va_P D vwCl (wo b ty m) H ∧ H.size = b.1 + m.1
def tyl (ty : Nat → ClassId) : List (ClassId × FieldType) := [(ty 0, .int), (ty 1, .byte), (ty 2, .boolean), (ty 3, .long), (ty 4, .object RX1)]
def isNest : Cond → Bool
  | .fieldLinkNest .. => true
  | .methodLinkNest .. => true
  | _ => false
def good_tbl : List Cond := lw_tbl.filter goodWord
def nest_tbl : List Cond := lw_tbl.filter isNest
def tx0 : String := "row holding use bank wind drifts thins gives gusts leak seed if then else fog hour day across down whose store ration blows "
def tx1 : String := ";=+-*/<()"
def txB : List (List Int32) := [tx0.toList.map (fun c => Int32.ofNat c.toNat), tx1.toList.map (fun c => Int32.ofNat c.toNat)]
def txL : List Nat := [tx0.length, tx1.length]
/-- the texts, where they lie, and a static that the JDK reads -/
def Tx (b : Bs) (U : State) (H : Heap) : Prop := ∃ adK adV : Nat → Nat, (∀ i, i < 2 → b.2 (2 * i) = some (adK i) ∧ b.2 (2 * i + 1) = some (adV i)) ∧ vk_S 2 txL txB adK adV (fun q => b.1 ≤ q) U H ∧ vk_R RX10 29 tx0 (adK 0) U ∧ vk_R RX10 85 tx1 (adK 1) U ∧ va_Z "java/lang/String" "COMPACT_STRINGS" "Z" (.int 1) (fun q => b.1 ≤ q) U H ∧ va_Z "jdk/internal/util/Preconditions" "SIOOBE_FORMATTER" "Ljava/util/function/BiFunction;" (va_rf (b.2 100)) (fun q => b.1 ≤ q) U H
def Kn (D : va_G) (ty : Nat → ClassId) (b : Bs) (U : State) : Prop := va_K D vwCl (tyl ty) U ∧ (∀ w ∈ nest_tbl, va_Nw w U) ∧ va_AO RX1 U ∧ Tx b U U.heap
theorem nest_warm {w : Cond} (h : isNest w = true) {s U : State} (hW : s.WarmedH U.vm) (hZ : va_Nw w s) : va_Nw w U := by
  cases w <;> first | (exact va_Nw.warmF hW hZ) | (exact va_Nw.warmM hW hZ) | (simp [isNest] at h)
theorem nest_on {w : Cond} (h : isNest w = true) : w.onTables = true := by
  cases w <;> first | rfl | (simp [isNest] at h)
theorem Kn.to {D : va_G} {ty : Nat → ClassId} {b : Bs} {s U : State} (hW : s.WarmedH U.vm) (hk : ∀ a : Nat, a < s.heap.size → ¬ b.1 ≤ a → U.heap[a]? = s.heap[a]?) (h : Kn D ty b s) : Kn D ty b U := by
  obtain ⟨h1, h2, h3, adK, adV, h4, h5, h6, h7, h8, h9⟩ := h
  exact ⟨va_K.moved hW.alike h1, fun w hw => nest_warm (List.mem_filter.mp hw).2 hW (h2 w hw), va_AO.moved hW.alike h3, adK, adV, h4, vk_S.moved hW.alike (vk_S.kept h5 hk), vk_R.warm hW h6, vk_R.warm hW h7, va_Z.moved hW.alike (va_Z.kept h8 hk), va_Z.moved hW.alike (va_Z.kept h9 hk)⟩
theorem Kn.same {D : va_G} {ty : Nat → ClassId} {b : Bs} {s U : State} (hv : U.vm = s.vm) (hh : U.heap = s.heap) (h : Kn D ty b s) : Kn D ty b U := by
  obtain ⟨h1, h2, h3, adK, adV, h4, h5, h6, h7, h8, h9⟩ := h
  have ha : s.vm.Alike U.vm := by rw [hv]; exact Vm.Alike.refl _
  have hk : ∀ a : Nat, a < s.heap.size → ¬ b.1 ≤ a → U.heap[a]? = s.heap[a]? := fun a _ _ => by rw [hh]
  exact ⟨va_K.moved ha h1, fun w hw => va_Nw.same (nest_on (List.mem_filter.mp hw).2) hv.symm (h2 w hw), va_AO.moved ha h3, adK, adV, h4, vk_S.moved ha (vk_S.kept h5 hk), vk_R.same hv h6, vk_R.same hv h7, va_Z.moved ha (va_Z.kept h8 hk), va_Z.moved ha (va_Z.kept h9 hk)⟩
/-- a method: its name, code, locals, type, and its room: frames, locals, cells, slots -/
abbrev MD : Type := MethodName × ByteArray × Nat × Option FieldType × Nat × Nat × Nat × Nat
abbrev MD.y (M : MD) : MethodName := M.1
abbrev MD.b (M : MD) : ByteArray := M.2.1
abbrev MD.ml (M : MD) : Nat := M.2.2.1
abbrev MD.rt (M : MD) : Option FieldType := M.2.2.2.1
abbrev MD.fr (M : MD) : Nat := M.2.2.2.2.1
abbrev MD.lc (M : MD) : Nat := M.2.2.2.2.2.1
abbrev MD.mc (M : MD) : Nat := M.2.2.2.2.2.2.1
abbrev MD.ms (M : MD) : Nat := M.2.2.2.2.2.2.2
def wsm (M : MD) : List Cond := Cond.code M.y M.b M.ml M.rt :: good_tbl
def rom (M : MD) : Room := { frames := M.fr, cells := M.mc, slots := M.ms, locals := M.lc }
/-- what of a method's start is the same all through its run -/
def Cx (M : MD) (D : va_G) (ty : Nat → ClassId) (b : Bs) (p : Program) (s : State) (mm : MethodId) (args : Array Value) (meth : Method) (c : Code) : Prop :=
  p.tables.exec = Jvm.exec ∧ c.code = M.b ∧ c.maxLocals = M.ml ∧ meth.sig.returnType = M.rt ∧ s.vm.findClass M.y.cls = some mm.cls ∧ (∀ w ∈ wsm M, w.before args s = true) ∧ meth.locks = false ∧ meth.name = M.y.name ∧ Kn D ty b s ∧ b.1 ≤ s.heap.size
def Qcc (Q : Option Value → Me → Prop) (D : va_G) (ty : Nat → ClassId) (b : Bs) : Array Value → State → Outcome → State → Prop := fun _ st oc t =>
  (∃ (r : Option Value) (m' : Me), oc = .returned (r.map (cv b)) ∧ Q r m' ∧ Hd D ty b m' t.heap) ∧ va_F (fun q => b.1 ≤ q) st t
def lvl (b : Bs) : List (Option Value) → Nat → List (Nat × Value)
  | [], _ => []
  | some v :: l, i => (i, cv b v) :: lvl b l (i + 1)
  | none :: l, i => lvl b l (i + 1)
/-- the machine, at pc with locals L, operand stack S and memory m, c cells and z slots made so far, comes to an end of the method with Q -/
def Go (M : MD) (Q : Option Value → Me → Prop) (pc : Nat) (L : List (Option Value)) (S : List Value) (m : Me) (cc zz : Nat) : Prop :=
  ∀ (D : va_G) (ty : Nat → ClassId) (b : Bs) (p : Program) (l : Launch) (e : Env) (s : State) (mm : MethodId) (args : Array Value) (below : List Frame) (meth : Method) (c : Code), Cx M D ty b p s mm args meth c →
    ∀ (H : Heap) (locs : List Loc) (ls : Array Slot), lv_has ls M.ml (lvl b L 0) → Hd D ty b m H → va_S (fun q => b.1 ≤ q) s.heap H locs →
      W p l e (rom M) s mm args below meth c H locs cc zz (MQ below (Qcc Q D ty b) args s M.mc M.ms (fun q => b.1 ≤ q)) (F0 mm pc ls (S.map (cv b)))
/-- the locals with which a method begins -/
def ent : List Value → List (Option Value)
  | [] => []
  | v :: vs => some v :: (if v.category = 2 then none :: ent vs else ent vs)
def enL (M : MD) (as : List Value) : List (Option Value) := ent as ++ List.replicate (M.ml - (ent as).length) none
/-- a method's contract: from memory m with arguments as it comes to an end with Q -/
def Ev (M : MD) (as : List Value) (m : Me) (Q : Option Value → Me → Prop) : Prop :=
  plainName M.y.cls = true ∧ (ent as).length ≤ M.ml ∧ Go M Q 0 (enL M as) [] m 0 0
theorem lvl_mem {b : Bs} {q : Nat × Value} : ∀ {L : List (Option Value)} {i : Nat}, q ∈ lvl b L i ↔ ∃ (j : Nat) (v : Value), L[j]? = some (some v) ∧ q = (i + j, cv b v)
  | [], i => by simp [lvl]
  | some w :: L, i => by
    unfold lvl
    rw [List.mem_cons, lvl_mem (L := L)]
    constructor
    · rintro (h | ⟨j, v, h1, h2⟩)
      · exact ⟨0, w, by simp, by simpa using h⟩
      · exact ⟨j + 1, v, by simpa using h1, by rw [h2]; congr 1; omega⟩
    · rintro ⟨j, v, h1, h2⟩
      cases j with
      | zero => left; simp at h1; rw [h2, h1]; rfl
      | succ j => right; exact ⟨j, v, by simpa using h1, by rw [h2]; congr 1; omega⟩
  | none :: L, i => by
    unfold lvl
    rw [lvl_mem (L := L)]
    constructor
    · rintro ⟨j, v, h1, h2⟩
      exact ⟨j + 1, v, by simpa using h1, by rw [h2]; congr 1; omega⟩
    · rintro ⟨j, v, h1, h2⟩
      cases j with
      | zero => simp at h1
      | succ j => exact ⟨j, v, by simpa using h1, by rw [h2]; congr 1; omega⟩
theorem lvl_at {b : Bs} {L : List (Option Value)} {ls : Array Slot} {n i : Nat} {v : Value} (h : lv_has ls n (lvl b L 0)) (hL : L[i]? = some (some v)) : ls[i]? = some (.val (cv b v)) := by
  have := h.2.2 (0 + i, cv b v) (lvl_mem.mpr ⟨i, v, hL, rfl⟩)
  simpa using this
theorem lvl_sub {b : Bs} {L L' : List (Option Value)} {ls : Array Slot} {n : Nat} (h : lv_has ls n (lvl b L 0)) (hs : ∀ (j : Nat) (v : Value), L'[j]? = some (some v) → L[j]? = some (some v)) : lv_has ls n (lvl b L' 0) := by
  refine ⟨h.1, h.2.1, fun q hq => ?_⟩
  obtain ⟨j, v, h1, h2⟩ := lvl_mem.mp hq
  exact h.2.2 q (lvl_mem.mpr ⟨j, v, hs j v h1, h2⟩)
/-- a long ahead of a written place goes -/
def kl (L : List (Option Value)) (i : Nat) : List (Option Value) := match i with
  | 0 => L
  | k + 1 => match L[k]? with
    | some (some v) => if v.category = 2 then L.set k none else L
    | _ => L
def st1 (L : List (Option Value)) (i : Nat) (v : Value) : List (Option Value) := (kl L i).set i (some v)
def st2 (L : List (Option Value)) (i : Nat) (v : Value) : List (Option Value) := ((kl L i).set i (some v)).set (i + 1) none
theorem kl_at {L : List (Option Value)} {i j : Nat} {v : Value} (h : (kl L i)[j]? = some (some v)) : L[j]? = some (some v) ∧ ¬ (j + 1 = i ∧ v.category = 2) := by
  unfold kl at h
  cases i with
  | zero => exact ⟨h, fun q => by omega⟩
  | succ k =>
    simp only at h
    cases hk : L[k]? with
    | none =>
      rw [hk] at h
      exact ⟨h, fun q => by have : j = k := by omega
                            subst this; rw [hk] at h; cases h⟩
    | some o =>
      rw [hk] at h
      cases o with
      | none => exact ⟨h, fun q => by have : j = k := by omega
                                      subst this; simp only at h; rw [hk] at h; cases h⟩
      | some w =>
        simp only at h
        by_cases hc : w.category = 2
        · rw [if_pos hc] at h
          by_cases hj : j = k
          · subst hj
            rw [List.getElem?_set_self (List.getElem?_eq_some_iff.mp hk).1] at h
            cases h
          · rw [List.getElem?_set_ne (Ne.symm hj)] at h
            exact ⟨h, fun q => hj (by omega)⟩
        · rw [if_neg hc] at h
          refine ⟨h, fun q => ?_⟩
          have : j = k := by omega
          subst this
          rw [hk] at h
          cases h
          exact hc q.2
theorem st1_at {b : Bs} {L : List (Option Value)} {ls : Array Slot} {n i : Nat} {v : Value} (hlen : i < L.length) (h : lv_has ls n ((i, cv b v) :: (lvl b L 0).filter (fun q => !(q.1 == i) && !(q.1 + 1 == i && q.2.category == 2)))) : lv_has ls n (lvl b (st1 L i v) 0) := by
  refine ⟨h.1, h.2.1, fun q hq => h.2.2 q ?_⟩
  obtain ⟨j, w, h1, h2⟩ := lvl_mem.mp hq
  unfold st1 at h1
  by_cases hj : j = i
  · subst hj
    have hl : j < (kl L j).length := by
      unfold kl
      cases j with
      | zero => exact hlen
      | succ k => simp only; split <;> (try split) <;> simpa using hlen
    rw [List.getElem?_set_self hl] at h1
    cases h1
    rw [h2]
    simp
  · rw [List.getElem?_set_ne (Ne.symm hj)] at h1
    obtain ⟨h3, h4⟩ := kl_at h1
    refine List.mem_cons_of_mem _ (List.mem_filter.mpr ⟨lvl_mem.mpr ⟨j, w, h3, h2⟩, ?_⟩)
    rw [h2]
    simp only [Nat.zero_add, cv_cat, Bool.and_eq_true, Bool.not_eq_true', beq_eq_false_iff_ne, ne_eq, Bool.and_eq_false_imp, beq_iff_eq]
    exact ⟨hj, fun e1 e2 => h4 ⟨e1, e2⟩⟩
theorem st2_at {b : Bs} {L : List (Option Value)} {ls : Array Slot} {n i : Nat} {v : Value} (hlen : i + 1 < L.length) (h : lv_has ls n ((i, cv b v) :: (lvl b L 0).filter (fun q => !(q.1 == i) && (!(q.1 == i + 1) && !(q.1 + 1 == i && q.2.category == 2))))) : lv_has ls n (lvl b (st2 L i v) 0) := by
  refine ⟨h.1, h.2.1, fun q hq => h.2.2 q ?_⟩
  obtain ⟨j, w, h1, h2⟩ := lvl_mem.mp hq
  unfold st2 at h1
  have hkl : (kl L i).length = L.length := by
    unfold kl
    cases i with
    | zero => rfl
    | succ k => simp only; split <;> (try split) <;> simp
  by_cases hj1 : j = i + 1
  · subst hj1
    rw [List.getElem?_set_self (by rw [List.length_set, hkl]; exact hlen)] at h1
    cases h1
  · rw [List.getElem?_set_ne (Ne.symm hj1)] at h1
    by_cases hj : j = i
    · subst hj
      rw [List.getElem?_set_self (by rw [hkl]; omega)] at h1
      cases h1
      rw [h2]
      simp
    · rw [List.getElem?_set_ne (Ne.symm hj)] at h1
      obtain ⟨h3, h4⟩ := kl_at h1
      refine List.mem_cons_of_mem _ (List.mem_filter.mpr ⟨lvl_mem.mpr ⟨j, w, h3, h2⟩, ?_⟩)
      rw [h2]
      simp only [Nat.zero_add, cv_cat, Bool.and_eq_true, Bool.not_eq_true', beq_eq_false_iff_ne, ne_eq, Bool.and_eq_false_imp, beq_iff_eq]
      exact ⟨hj, hj1, fun e1 e2 => h4 ⟨e1, e2⟩⟩
theorem ent_lvl (b : Bs) (n : Nat) : ∀ (vs : List Value) (i : Nat), lvl b (ent vs ++ List.replicate n none) i = lv_args i (vs.map (cv b))
  | [], i => by
    show lvl b (List.replicate n none) i = []
    induction n generalizing i with
    | zero => rfl
    | succ n ih => exact ih (i + 1)
  | v :: vs, i => by
    show (i, cv b v) :: lvl b ((if v.category = 2 then none :: ent vs else ent vs) ++ List.replicate n none) (i + 1) = (i, cv b v) :: lv_args (if (cv b v).category = 2 then i + 2 else i + 1) (vs.map (cv b))
    rw [cv_cat]
    by_cases hc : v.category = 2
    · rw [if_pos hc, if_pos hc]
      congr 1
      exact ent_lvl b n vs (i + 2)
    · rw [if_neg hc, if_neg hc]
      congr 1
      exact ent_lvl b n vs (i + 1)
theorem ent_len (b : Bs) : ∀ (vs : List Value), (lg_sl (vs.map (cv b))).length = (ent vs).length
  | [] => rfl
  | v :: vs => by
    show (List.flatMap _ (cv b v :: vs.map (cv b))).length = _
    rw [List.flatMap_cons, List.length_append]
    have ih := ent_len b vs
    unfold lg_sl at ih
    rw [ih, cv_cat, show ent (v :: vs) = some v :: (if v.category = 2 then none :: ent vs else ent vs) from rfl]
    by_cases hc : v.category = 2
    · rw [if_pos hc, if_pos hc]; simp; omega
    · rw [if_neg hc, if_neg hc]; simp; omega
/-- a contract, as the kit has them -/
theorem Ev.met {M : MD} {as : List Value} {m : Me} {Q : Option Value → Me → Prop} (h : Ev M as m Q) (l : Launch) (D : va_G) (ty : Nat → ClassId) (b : Bs) : Met l M.y (wsm M) (rom M) (va_Pc (as.map (cv b)) (fun U => Hd D ty b m U.heap ∧ Kn D ty b U)) (Qcc Q D ty b) M.mc M.ms (fun q => b.1 ≤ q) := by
  obtain ⟨hy, hl, h⟩ := h
  refine Met.ofW (cc := M.b) (maxL := M.ml) (ret := M.rt) (ws' := good_tbl) hy rfl ?_
  intro p e s mm args below meth c s₁ B hml hv
  obtain ⟨rfl, hH, hK⟩ := hv
  have hts := atoms_spec (ws := wsm M) B.pre
  have hown : s.vm.findClass M.y.cls = some mm.cls := findClass_of_methodNamed B.named
  have hin : meth.name = M.y.name := (name_of_methodNamed B.named B.method).1
  have hloc := lv_entry (as.map (cv b)) (n := M.ml) (by rw [ent_len]; exact hl)
  rw [lg_entry_eq]
  generalize (lg_sl (as.map (cv b)) ++ List.replicate (M.ml - (lg_sl (as.map (cv b))).length) Slot.unset).toArray = ls at hloc ⊢
  rw [← ent_lvl b (M.ml - (ent as).length)] at hloc
  exact h D ty b p l e s mm _ below meth c ⟨B.exec, B.bytes, hml, B.returns, hown, hts, B.notSynchronized, hin, hK, by rw [hH.2]; omega⟩ s.heap [] ls hloc hH va_S.rf
theorem Go.mono {M : MD} {Q Q' : Option Value → Me → Prop} {pc : Nat} {L : List (Option Value)} {S : List Value} {m : Me} {cc zz : Nat} (h : Go M Q pc L S m cc zz) (hq : ∀ r m', Q r m' → Q' r m') : Go M Q' pc L S m cc zz := by
  intro D ty b p l e s mm args below meth c C H locs ls hl hH hS T hT X
  obtain ⟨t, a1, o, b1, b2, ⟨⟨r, m', c1, c2, c3⟩, c4⟩, b4⟩ := h D ty b p l e s mm args below meth c C H locs ls hl hH hS T hT X
  exact ⟨t, a1, o, b1, b2, ⟨⟨r, m', c1, hq r m' c2, c3⟩, c4⟩, b4⟩
theorem Ev.mono {M : MD} {as : List Value} {m : Me} {Q Q' : Option Value → Me → Prop} (h : Ev M as m Q) (hq : ∀ r m', Q r m' → Q' r m') : Ev M as m Q' := ⟨h.1, h.2.1, h.2.2.mono hq⟩
