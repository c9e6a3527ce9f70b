/-! the tells, one behind the other -/
theorem gChk_f {K : Nat → Nat} {s : Nat × Nat} (h : s.1 ≠ 0) : ∀ (f : Nat) (c : Nat → Nat), gChk K f c s = s
  | 0, _ => rfl
  | f + 1, c => by rw [gChk, if_neg (fun q => h q.1)]
theorem gChk_e {K : Nat → Nat} {p : Nat} (h : K p = 34) : ∀ (f : Nat) (c : Nat → Nat), gChk K f c (0, p) = (0, p)
  | 0, _ => rfl
  | f + 1, c => by rw [gChk, if_neg (fun q => q.2 h)]
theorem gChk_t {K : Nat → Nat} {p f : Nat} {c : Nat → Nat} (h : K p ≠ 34) : gChk K (f + 1) c (0, p) = gChk K f (gUp (K p) c) (gTell K c (K p) (0, p)) := by rw [gChk, if_pos ⟨rfl, h⟩]
theorem chk_step {K : Nat → Nat} {p q f : Nat} {c : Nat → Nat} (h : gChk K (f + 1) c (0, p) = (0, q)) (hk : K p ≠ 34) : K p ≤ 10 ∧ ∃ r, gTell K c (K p) (0, p) = (0, r) ∧ teO K c (K p) p r ∧ gChk K f (gUp (K p) c) (0, r) = (0, q) := by
  rw [gChk_t hk] at h
  by_cases z : (gTell K c (K p) (0, p)).1 = 0
  · obtain ⟨a, b, d⟩ := te_i (c := c) (p := p) rfl z
    rw [d] at h
    exact ⟨a, _, d, b, h⟩
  · rw [gChk_f z] at h
    rw [h] at z
    exact absurd rfl z
/-- tokens from a up to b that are neither the end nor a semicolon -/
def noE (K : Nat → Nat) (a b : Nat) : Prop := ∀ i, a ≤ i → i < b → K i < 34 ∧ K i ≠ 25
theorem noE.tr {K : Nat → Nat} {a b c : Nat} (h : noE K a b) (k : noE K b c) : noE K a c := fun i h1 h2 => by
  by_cases q : i < b
  · exact h i h1 q
  · exact k i (by omega) h2
theorem noE.one {K : Nat → Nat} {a k : Nat} (h : K a = k) (k1 : k < 34) (k2 : k ≠ 25) : noE K a (a + 1) := fun i h1 h2 => by
  rw [show i = a by omega, h]
  exact ⟨k1, k2⟩
theorem su_tk {K : Nat → Nat} {p q : Nat} (h : gS K (0, p) = (0, q)) (hp : p ≤ 400) : p < q ∧ q ≤ 400 ∧ noE K p q := by
  obtain ⟨a, b, c, -, -⟩ := su_ok (K := K) (V := fun _ => 0) (fun _ _ => by omega) h hp
  refine ⟨a, b, fun i h1 h2 => ?_⟩
  have := (c (i - p) (by omega)).1
  rw [show p + (i - p) = i by omega] at this
  unfold sT at this
  omega
theorem ifs_tk {K : Nat → Nat} : ∀ (n c a b : Nat), gIfs K n c (0, a) = (0, b) → a ≤ 400 → a ≤ b ∧ b ≤ 400 ∧ noE K a b
  | 0, c, a, b, h, ha => by
    have e : a = b := congrArg Prod.snd h
    subst e
    exact ⟨Nat.le_refl _, ha, fun i h1 h2 => by omega⟩
  | n + 1, c, a, b, h, ha => by
    by_cases k : K a = 11
    · rw [gIfs_yes rfl k] at h
      by_cases z : (gIf K c (0, a)).1 = 0
      · obtain ⟨-, q1, q2, q3, ⟨o1, o2, o3, o4, o5, o6, o7, o8, o9, oA, oB⟩, e, -⟩ := gIf_i (V := fun _ => 0) z
        rw [e] at h
        obtain ⟨r1, r2, r3⟩ := ifs_tk n (c + 1) (q3 + 1) b h (by omega)
        obtain ⟨s1, s2, s3⟩ := su_tk o3 (by omega)
        obtain ⟨t1, t2, t3⟩ := su_tk o6 (by omega)
        obtain ⟨u1, u2, u3⟩ := su_tk o9 (by omega)
        exact ⟨by omega, r2, (noE.one o1 (by decide) (by decide)).tr (s3.tr ((noE.one o4 (by decide) (by decide)).tr (t3.tr ((noE.one o7 (by decide) (by decide)).tr (u3.tr ((noE.one oA (by decide) (by decide)).tr r3))))))⟩
      · rw [gIfs_f z] at h
        rw [h] at z
        exact absurd rfl z
    · rw [gIfs_no (s := (0, a)) k] at h
      have e : a = b := congrArg Prod.snd h
      subst e
      exact ⟨Nat.le_refl _, ha, fun i h1 h2 => by omega⟩
theorem te_sk {K c : Nat → Nat} {k p r : Nat} (h : teO K c k p r) (hk : K p = k) (k10 : k ≤ 10) : p + 2 < r ∧ r ≤ 400 ∧ K (r - 1) = 25 ∧ noE K p (r - 1) := by
  have h0 : noE K p (p + 1) := noE.one hk (by omega) (by omega)
  obtain ⟨a, b, ⟨-, -, e1, e2, e⟩ | ⟨-, -, e1, e2, e3, e4, e⟩ | ⟨-, -, e1, e2, e3, e4, e5, e6, e⟩ | ⟨-, -, e1, e2, e3, e4, e⟩ | ⟨-, e1, hp, x, q, e2, e3, e4, e5, e⟩ | ⟨-, e1, e2, e⟩⟩ := h
  · subst e
    exact ⟨by omega, b, e2, h0.tr (noE.one e1 (by decide) (by decide))⟩
  · subst e
    exact ⟨by omega, b, e4, h0.tr ((noE.one e1 (by decide) (by decide)).tr ((noE.one e2 (by decide) (by decide)).tr (noE.one e3 (by decide) (by decide))))⟩
  · subst e
    exact ⟨by omega, b, e6, h0.tr ((noE.one e1 (by decide) (by decide)).tr ((noE.one e2 (by decide) (by decide)).tr ((noE.one e3 (by decide) (by decide)).tr ((noE.one e4 (by decide) (by decide)).tr (noE.one e5 (by decide) (by decide))))))⟩
  · subst e
    exact ⟨by omega, b, e4, h0.tr ((noE.one e1 (by decide) (by decide)).tr ((noE.one e2 (by decide) (by decide)).tr (noE.one e3 (by decide) (by decide))))⟩
  · subst e
    obtain ⟨f1, f2, f3⟩ := ifs_tk _ _ _ _ e2 (by omega)
    obtain ⟨g1, g2, g3⟩ := su_tk e3 f2
    exact ⟨by omega, b, e4, h0.tr ((noE.one e1 (by decide) (by decide)).tr (f3.tr g3))⟩
  · subst e
    exact ⟨by omega, b, e2, h0.tr (noE.one e1 (by decide) (by decide))⟩
/-- no two HOLDINGS of one name -/
def NmD (D : Dr) : Prop := ∀ h g, h < D.n 2 → g < D.n 2 → D.nm 0 h = D.nm 0 g → h = g
theorem lt_dec {a b : Nat} (h : a < b + 1) : a = b ∨ a < b := by omega
theorem drU {α : Type} {f : Nat → α} {a b : Nat} {r : α} (h : b = a) : va_up f a r b = r := by rw [h]; exact up_s
/-- counts, whatever is wrong -/
def CnW (c : Nat → Nat) (D : Dr) : Prop := D.n 0 ≤ 8 ∧ CnO c D
theorem te_cn {K V : Nat → Nat} {N : Nat → List Nat} {c : Nat → Nat} {k p r : Nat} {D : Dr} (h : teO K c k p r) (hn : ∀ j, K j = 23 → NmO (N j)) (h2 : CnW c D) : CnW (gUp k c) (teD K V N k p D) := by
  obtain ⟨h0, a, b, d, e, u0, u1, u2, u3⟩ := h2
  obtain ⟨-, -, ⟨rfl, cc, e1, -⟩ | ⟨rfl, cc, -⟩ | ⟨rfl, cc, -⟩ | ⟨rfl, cc, -⟩ | ⟨⟨k4, k7⟩, -⟩ | ⟨k8, -⟩⟩ := h
  · refine ⟨?_, ?_, b, d, e, ?_, u1, u2, u3⟩
    · show rwW D (N (p + 1)) ≤ 8
      unfold rwW
      split
      · exact (hn _ e1).2.2
      · exact h0
    · show D.n 1 + 1 = c 0 + 1
      omega
    · show c 0 + 1 ≤ 5
      omega
  · exact ⟨h0, a, by show D.n 2 + 1 = c 1 + 1; omega, d, e, u0, by show c 1 + 1 ≤ 4; omega, u2, u3⟩
  · exact ⟨h0, a, b, by show D.n 3 + 1 = c 2 + 1; omega, e, u0, u1, by show c 2 + 1 ≤ 6; omega, u3⟩
  · exact ⟨h0, a, b, d, by show D.n 4 + 1 = c 3 + 1; omega, u0, u1, u2, by show c 3 + 1 ≤ 12; omega⟩
  · rw [gUp_ne (by omega)]
    rcases (show k = 4 ∨ k = 5 ∨ k = 6 ∨ k = 7 by omega) with rfl | rfl | rfl | rfl <;> exact ⟨h0, a, b, d, e, u0, u1, u2, u3⟩
  · rw [gUp_ne (by omega)]
    rcases k8 with rfl | rfl | rfl <;> exact ⟨h0, a, b, d, e, u0, u1, u2, u3⟩
theorem getD_mem {l : List Nat} {i : Nat} (h : i < l.length) : l.getD i 0 ∈ l := by
  rw [List.getD_eq_getElem?_getD, List.getElem?_eq_getElem h]
  exact List.getElem_mem h
theorem rwC_c {l : List Nat} {i : Nat} (hl : ltO l) (ho : ∀ c ∈ l, c ≤ 4 ∨ c = 15) (h : i < l.length) : rwC (l.getD i 0) = nI 9 ∨ ∃ h, h < 4 ∧ rwC (l.getD i 0) = nI h := by
  have hm := getD_mem h
  have h1 := (hl _ hm).1
  have h2 := ho _ hm
  generalize l.getD i 0 = c at h1 h2
  unfold rwC
  by_cases e : c = 15
  · rw [if_pos e]; exact Or.inl rfl
  · rw [if_neg e]
    refine Or.inr ⟨c - 1, by omega, ?_⟩
    have : ∀ c : Fin 5, 1 ≤ c.val → nI c.val - nI 1 = nI (c.val - 1) := by decide
    exact this ⟨c, by omega⟩ h1
/-- a law's parts run -/
theorem laB_ok {K V : Nat → Nat} (hV : ∀ j, K j = 24 → V j < 65536) : ∀ (n c a b : Nat), gIfs K n c (0, a) = (0, b) → a ≤ 400 → (401 ≤ n + a) → (laB K V n a).2 = b ∧ ∀ e ∈ (laB K V n a).1, okB e
  | 0, c, a, b, h, ha, hn => by omega
  | n + 1, c, a, b, h, ha, hn => by
    by_cases k : K a = 11
    · rw [gIfs_yes rfl k] at h
      by_cases z : (gIf K c (0, a)).1 = 0
      · obtain ⟨-, q1, q2, q3, ⟨o1, o2, o3, o4, o5, o6, o7, o8, o9, oA, oB⟩, e, e2, e3⟩ := gIf_i (V := V) z
        rw [e] at h
        obtain ⟨s1, s2, -, -, s5⟩ := su_ok hV o3 (by omega)
        obtain ⟨t1, t2, -, -, t5⟩ := su_ok hV o6 (by omega)
        obtain ⟨u1, u2, -, -, u5⟩ := su_ok hV o9 (by omega)
        obtain ⟨r1, r2⟩ := laB_ok hV n (c + 1) (q3 + 1) b h (by omega) (by omega)
        rw [laB_11 k, e2, e3]
        refine ⟨r1, fun f hf => ?_⟩
        rcases List.mem_cons.mp hf with g | g
        · rw [g]; exact ⟨s5, t5, u5⟩
        · exact r2 f g
      · rw [gIfs_f z] at h
        rw [h] at z
        exact absurd rfl z
    · rw [gIfs_no (s := (0, a)) k] at h
      rw [laB_no k]
      exact ⟨congrArg Prod.snd h, fun e he => by cases he⟩
theorem la_ok {K V : Nat → Nat} {a b q : Nat} (hV : ∀ j, K j = 24 → V j < 65536) (h : gIfs K 400 1 (0, a) = (0, b)) (h2 : gS K (0, b) = (0, q)) (ha : 1 ≤ a ∧ a ≤ 400) (hq : q < 400) : (∀ c ∈ (laP K V a).1, okB c) ∧ okC (laP K V a).2 := by
  obtain ⟨e1, e2⟩ := laB_ok hV 400 1 a b h ha.2 (by omega)
  obtain ⟨-, hb, -⟩ := ifs_tk _ _ _ _ h ha.2
  refine ⟨e2, ?_⟩
  show okC (suC K V (laB K V 400 a).2 (sQ K (laB K V 400 a).2))
  rw [e1, show sQ K b = q from congrArg Prod.snd h2]
  exact (su_ok hV h2 hb).2.2.2.2
/-- a tell in which nothing is wrong keeps the draft in order -/
theorem te_ok {K V : Nat → Nat} {N : Nat → List Nat} {c : Nat → Nat} {k p r : Nat} {D : Dr} {w : Nat × Nat} (h : teO K c k p r) (hn : ∀ j, K j = 23 → NmO (N j)) (hV : ∀ j, K j = 24 → V j < 65536) (hw : (teW V N k p D w).1 = 0) (hc : CnO c D) (hd : DrO D) (hm : NmD D) : DrO (teD K V N k p D) ∧ NmD (teD K V N k p D) := by
  obtain ⟨a, b, d, e, u0, u1, u2, u3⟩ := hc
  obtain ⟨d1, d2, d3, d4, d5, d6, d7, d8, d9, dA, dB⟩ := id hd
  obtain ⟨hp, -, ⟨rfl, cc, e1, -⟩ | ⟨rfl, cc, e1, e2, e3, -⟩ | ⟨rfl, cc, e1, e2, e3, e4, e5, -⟩ | ⟨rfl, cc, e1, e2, e3, -⟩ | ⟨⟨k4, k7⟩, e1, hp1, x, q, e2, e3, e4, e5, -⟩ | ⟨k8, e1, -⟩⟩ := h
  · have hz := (wq_z (c := ¬ rwO D (N (p + 1))) (k := 6) (j := p + 1) (w := w) (by decide) hw).1
    have hz : rwO D (N (p + 1)) := Classical.not_not.mp hz
    obtain ⟨l1, l2, l3⟩ := hn _ e1
    refine ⟨?_, hm⟩
    show DrO (rwD D (N (p + 1)))
    generalize N (p + 1) = l at hz l1 l2 l3
    obtain ⟨hl, ho⟩ := hz
    have hi : ∀ j, j < 100 → (rwD D l).i j = D.i j := fun j hj => if_neg (by omega)
    refine ⟨?_, ?_, ?_, fun h h1 h2 => ?_, fun h h1 => ?_, fun cl c1 c2 c3 => ?_, d7, fun u hu => ?_, d9, dA, dB⟩
    · show rwW D l ≤ 8
      omega
    · show rwW D l = 0 ↔ D.n 1 + 1 = 0
      omega
    · rw [hi 1 (by decide)]; exact d3
    · rw [hi _ (by omega), hi _ (by omega)]; exact d4 h h1 h2
    · have h1 : h < D.n 2 := h1
      rw [hi _ (by omega)]; exact d5 h h1
    · have c2 : cl % 8 < rwW D l := c2
      have c3 : cl / 8 < D.n 1 + 1 := c3
      by_cases q : cl / 8 = D.n 1
      · have e : (rwD D l).i (100 + cl) = rwC (l.getD (100 + cl - (100 + 8 * D.n 1)) 0) := if_pos (by omega)
        rw [e]
        exact rwC_c l1 ho (by omega)
      · have e : (rwD D l).i (100 + cl) = D.i (100 + cl) := if_neg (by omega)
        rw [e]
        refine d6 cl c1 ?_ (by omega)
        unfold rwW at c2
        rw [if_neg (by omega)] at c2
        exact c2
    · have hu : u < D.n 3 := hu
      rw [hi _ (by omega)]; exact d8 u hu
  · have hw : (wq (999 < V (p + 3)) 5 (p + 3) (wq (99 < V (p + 2)) 5 (p + 2) (wq (seen D (N (p + 1))) 3 (p + 1) w))).1 = 0 := hw
    obtain ⟨z1, hw⟩ := wq_z (by decide) hw
    obtain ⟨z2, hw⟩ := wq_z (by decide) hw
    obtain ⟨z3, hw⟩ := wq_z (by decide) hw
    have lo := hn _ e1
    show DrO (hoD D (N (p + 1)) (V (p + 2)) (V (p + 3))) ∧ NmD (hoD D (N (p + 1)) (V (p + 2)) (V (p + 3)))
    generalize N (p + 1) = l at z3 lo
    generalize V (p + 2) = v at z2
    generalize V (p + 3) = y at z1
    have hi : ∀ j, j ≠ 10 + D.n 2 → j ≠ 20 + D.n 2 → (hoD D l v y).i j = D.i j := fun j h1 h2 => (up_n h2).trans (up_n h1)
    have hnm : ∀ h, h ≠ D.n 2 → (hoD D l v y).nm 0 h = D.nm 0 h := fun h q => by
      show va_up D.nm 0 (va_up (D.nm 0) (D.n 2) l) 0 h = _
      rw [up_s, up_n q]
    have hns : (hoD D l v y).nm 0 (D.n 2) = l := by
      show va_up D.nm 0 (va_up (D.nm 0) (D.n 2) l) 0 (D.n 2) = _
      rw [up_s, up_s]
    refine ⟨⟨d1, d2, ?_, fun h h1 h2 => ?_, fun h h1 => ?_, fun cl c1 c2 c3 => ?_, d7, fun u hu => ?_, d9, fun h h1 => ?_, dB⟩, fun h g h1 h2 q => ?_⟩
    · rw [hi 1 (by omega) (by omega)]; exact d3
    · have h1 : D.n 2 + 1 ≤ h := h1
      rw [hi _ (by omega) (by omega), hi _ (by omega) (by omega)]; exact d4 h (by omega) h2
    · have h1 : h < D.n 2 + 1 := h1
      rcases lt_dec h1 with rfl | h1
      · exact ⟨y, by omega, up_s⟩
      · rw [hi _ (by omega) (by omega)]; exact d5 h h1
    · rw [hi _ (by omega) (by omega)]; exact d6 cl c1 c2 c3
    · have hu : u < D.n 3 := hu
      rw [hi _ (by omega) (by omega)]
      obtain ⟨h, h1, h2⟩ := d8 u hu
      exact ⟨h, by show h < D.n 2 + 1; omega, h2⟩
    · have h1 : h < D.n 2 + 1 := h1
      rcases lt_dec h1 with rfl | h1
      · rw [hns]; exact lo
      · rw [hnm h (by omega)]; exact dA h h1
    · have h1 : h < D.n 2 + 1 := h1
      have h2 : g < D.n 2 + 1 := h2
      rcases lt_dec h1 with rfl | h1
      · rcases lt_dec h2 with rfl | h2
        · rfl
        · rw [hns, hnm g (by omega)] at q
          exact absurd (Or.inl ⟨g, h2, q.symm⟩) z3
      · rcases lt_dec h2 with rfl | h2
        · rw [hns, hnm h (by omega)] at q
          exact absurd (Or.inl ⟨h, h1, q⟩) z3
        · rw [hnm h (by omega), hnm g (by omega)] at q
          exact hm h g h1 h2 q
  · have hw : (wq (V (p + 5) < 1 ∨ 99 < V (p + 5)) 5 (p + 5) (wq (V (p + 4) < V (p + 3) ∨ 23 < V (p + 4)) 5 (p + 4) (wq (23 < V (p + 3)) 5 (p + 3) (wq (¬ fnd D (N (p + 2)) < D.n 2) 4 (p + 2) (wq (seen D (N (p + 1))) 3 (p + 1) w))))).1 = 0 := hw
    obtain ⟨z1, hw⟩ := wq_z (by decide) hw
    obtain ⟨z2, hw⟩ := wq_z (by decide) hw
    obtain ⟨z3, hw⟩ := wq_z (by decide) hw
    obtain ⟨z4, hw⟩ := wq_z (by decide) hw
    have z4 := Classical.not_not.mp z4
    have lo := hn _ e1
    show DrO (usD D (N (p + 1)) (N (p + 2)) (V (p + 3)) (V (p + 4)) (V (p + 5))) ∧ NmD (usD D (N (p + 1)) (N (p + 2)) (V (p + 3)) (V (p + 4)) (V (p + 5)))
    generalize N (p + 1) = l at lo
    generalize N (p + 2) = j at z4
    generalize V (p + 3) = v
    generalize V (p + 4) = y
    generalize V (p + 5) = x
    have hi : ∀ q, q ≠ 30 + D.n 3 → q ≠ 40 + D.n 3 → q ≠ 50 + D.n 3 → q ≠ 60 + D.n 3 → (usD D l j v y x).i q = D.i q := fun q h1 h2 h3 h4 => (up_n h4).trans ((up_n h3).trans ((up_n h2).trans (up_n h1)))
    refine ⟨⟨d1, d2, ?_, fun h h1 h2 => ?_, fun h h1 => ?_, fun cl c1 c2 c3 => ?_, d7, fun u hu => ?_, d9, dA, fun u hu => ?_⟩, hm⟩
    · rw [hi 1 (by omega) (by omega) (by omega) (by omega)]; exact d3
    · rw [hi _ (by omega) (by omega) (by omega) (by omega), hi _ (by omega) (by omega) (by omega) (by omega)]; exact d4 h h1 h2
    · have h1 : h < D.n 2 := h1
      rw [hi _ (by omega) (by omega) (by omega) (by omega)]; exact d5 h h1
    · rw [hi _ (by omega) (by omega) (by omega) (by omega)]; exact d6 cl c1 c2 c3
    · have hu : u < D.n 3 + 1 := hu
      rcases lt_dec hu with rfl | hu
      · refine ⟨fnd D j, z4, ?_⟩
        show va_up (va_up (va_up (va_up D.i (30 + D.n 3) (if fnd D j < D.n 2 then nI (fnd D j) else -1)) (40 + D.n 3) (nI v)) (50 + D.n 3) (nI y)) (60 + D.n 3) (nI x) (30 + D.n 3) = _
        rw [up_n (by omega), up_n (by omega), up_n (by omega), up_s, if_pos z4]
      · rw [hi _ (by omega) (by omega) (by omega) (by omega)]; exact d8 u hu
    · have hu : u < D.n 3 + 1 := hu
      show NmO (va_up D.nm 1 (va_up (D.nm 1) (D.n 3) l) 1 u)
      rw [up_s]
      rcases lt_dec hu with rfl | hu
      · rw [up_s]; exact lo
      · rw [up_n (by omega)]; exact dB u hu
  · have hw : (wq (99 < V (p + 3)) 5 (p + 3) (wq (4 < V (p + 2)) 5 (p + 2) (wq (7 < V (p + 1)) 5 (p + 1) w))).1 = 0 := hw
    obtain ⟨z1, hw⟩ := wq_z (by decide) hw
    obtain ⟨z2, hw⟩ := wq_z (by decide) hw
    obtain ⟨z3, hw⟩ := wq_z (by decide) hw
    refine ⟨?_, hm⟩
    show DrO (bkD D (V (p + 1)) (V (p + 2)) (V (p + 3)))
    refine ⟨d1, d2, d3, d4, d5, d6, fun g hg => ?_, d8, d9, dA, dB⟩
    have hg : g < D.n 4 + 1 := hg
    show va_up D.bk (D.n 4) _ g 0 ≤ 7 ∧ va_up D.bk (D.n 4) _ g 1 ≤ 4 ∧ va_up D.bk (D.n 4) _ g 2 ≤ 99
    rcases lt_dec hg with rfl | hg
    · rw [up_s]
      exact ⟨by show V (p + 1) ≤ 7; omega, by show V (p + 2) ≤ 4; omega, by show V (p + 3) ≤ 99; omega⟩
    · rw [up_n (by omega)]; exact d7 g hg
  · have key : ∀ kk, kk < 4 → DrO (lwD D kk (laP K V (p + 2))) := fun kk _ => by
      refine ⟨d1, d2, d3, d4, d5, d6, d7, d8, fun g hg => ?_, dA, dB⟩
      show (∀ c ∈ (va_up D.l kk (laP K V (p + 2)) g).1, okB c) ∧ okC (va_up D.l kk (laP K V (p + 2)) g).2
      by_cases q : g = kk
      · rw [drU q]
        exact la_ok hV e2 e3 ⟨by omega, by omega⟩ e5
      · rw [up_n q]; exact d9 g hg
    rcases (show k = 4 ∨ k = 5 ∨ k = 6 ∨ k = 7 by omega) with rfl | rfl | rfl | rfl
    · exact ⟨key 0 (by decide), hm⟩
    · exact ⟨key 1 (by decide), hm⟩
    · exact ⟨key 2 (by decide), hm⟩
    · exact ⟨key 3 (by decide), hm⟩
  · rcases k8 with rfl | rfl | rfl
    · refine ⟨?_, hm⟩
      show DrO (inD D 0 (V (p + 1)))
      have hi : ∀ q, q ≠ 0 → (inD D 0 (V (p + 1))).i q = D.i q := fun q h => up_n h
      refine ⟨d1, d2, by rw [hi 1 (by decide)]; exact d3, fun h h1 h2 => by rw [hi _ (by omega), hi _ (by omega)]; exact d4 h h1 h2, fun h h1 => by rw [hi _ (by omega)]; exact d5 h h1, fun cl c1 c2 c3 => by rw [hi _ (by omega)]; exact d6 cl c1 c2 c3, d7, fun u hu => by rw [hi _ (by omega)]; exact d8 u hu, d9, dA, dB⟩
    · have hw : (wq (99 < V (p + 1)) 5 (p + 1) w).1 = 0 := hw
      obtain ⟨z1, hw⟩ := wq_z (by decide) hw
      refine ⟨?_, hm⟩
      show DrO (inD D 1 (V (p + 1)))
      have hi : ∀ q, q ≠ 1 → (inD D 1 (V (p + 1))).i q = D.i q := fun q h => up_n h
      refine ⟨d1, d2, ⟨V (p + 1), by omega, by show va_up D.i 1 (nI (V (p + 1))) 1 = _; exact up_s⟩, fun h h1 h2 => by rw [hi _ (by omega), hi _ (by omega)]; exact d4 h h1 h2, fun h h1 => by rw [hi _ (by omega)]; exact d5 h h1, fun cl c1 c2 c3 => by rw [hi _ (by omega)]; exact d6 cl c1 c2 c3, d7, fun u hu => by rw [hi _ (by omega)]; exact d8 u hu, d9, dA, dB⟩
    · refine ⟨?_, hm⟩
      show DrO (inD D 2 (V (p + 1)))
      have hi : ∀ q, q ≠ 2 → (inD D 2 (V (p + 1))).i q = D.i q := fun q h => up_n h
      refine ⟨d1, d2, by rw [hi 1 (by decide)]; exact d3, fun h h1 h2 => by rw [hi _ (by omega), hi _ (by omega)]; exact d4 h h1 h2, fun h h1 => by rw [hi _ (by omega)]; exact d5 h h1, fun cl c1 c2 c3 => by rw [hi _ (by omega)]; exact d6 cl c1 c2 c3, d7, fun u hu => by rw [hi _ (by omega)]; exact d8 u hu, d9, dA, dB⟩
