def bmx (b : Nat → Nat → Nat) (q : Nat) : Nat → Nat
  | 0 => 0
  | n + 1 => max (bmx b q n) (b n q + 1)
/-- the class's laws, as they are drafted: the code, at most b steps; where each law's lies -/
def LwD (m : Me) (la : Nat) (D : Dr) (b : Nat) : Prop := ∃ C : Cs, LD m la C ∧ C.length ≤ b ∧ ∀ k, k < 4 → ∃ s, s + (lwK s (D.l k).1 (D.l k).2).length ≤ b ∧ gI m (la + 2) k = nI s ∧ Lies C s (lwK s (D.l k).1 (D.l k).2)
/-- the class's draft -/
def DrC (m : Me) (dr : Nat) (D : Dr) (b : Nat) : Prop := (gI m dr 0 = nI (D.n 0) ∧ gI m dr 1 = nI (D.n 1) ∧ gI m dr 2 = nI (D.n 2) ∧ gI m dr 3 = nI (D.n 3) ∧ gI m dr 4 = nI (D.n 4) ∧ gI m dr 5 = D.i 0 ∧ gI m dr 6 = D.i 1 ∧ gI m dr 7 = D.i 2) ∧ (∀ c, c < 40 → gI m (dr + 1) c = if c % 8 < D.n 0 ∧ c / 8 < D.n 1 then D.i (100 + c) else -1) ∧ (∀ c, c < 40 → gI m (dr + 2) c = nI (bfo D.bk c (D.n 4))) ∧ (∀ h, h < 4 → gI m (dr + 3) h = D.i (10 + h) ∧ gI m (dr + 4) h = D.i (20 + h)) ∧ (∀ u, u < D.n 3 → gI m (dr + 5) u = D.i (30 + u) ∧ gI m (dr + 6) u = D.i (40 + u) ∧ gI m (dr + 7) u = D.i (50 + u) ∧ gI m (dr + 8) u = D.i (60 + u)) ∧ NmC m D ∧ (gI m 10 2 = nI (bmx D.bk 0 (D.n 4)) - nI 1 ∧ gI m 10 3 = nI (bmx D.bk 1 (D.n 4)) - nI 1) ∧ LwD m (dr + 9) D b
theorem LwD.mn {m : Me} {la b b' : Nat} {D : Dr} (h : LwD m la D b) (q : b ≤ b') : LwD m la D b' := by
  obtain ⟨C, h1, h2, h3⟩ := h
  exact ⟨C, h1, by omega, fun k hk => by
    obtain ⟨s, a, e⟩ := h3 k hk
    exact ⟨s, by omega, e⟩⟩
theorem LwD.of {m m' : Me} {la b : Nat} {D D' : Dr} (h : LwD m la D b) (h0 : gI m' la = gI m la) (h1 : gI m' (la + 1) = gI m (la + 1)) (h2 : gI m' (la + 2) = gI m (la + 2)) (e : D'.l = D.l) : LwD m' la D' b := by
  obtain ⟨C, h3, h4, h5⟩ := h
  exact ⟨C, ⟨by rw [h0]; exact h3.1, fun i c hi => by rw [h1]; exact h3.2 i c hi⟩, h4, fun k hk => by rw [h2, e]; exact h5 k hk⟩
theorem DrC.mn {m : Me} {dr b b' : Nat} {D : Dr} (h : DrC m dr D b) (q : b ≤ b') : DrC m dr D b' := ⟨h.1, h.2.1, h.2.2.1, h.2.2.2.1, h.2.2.2.2.1, h.2.2.2.2.2.1, h.2.2.2.2.2.2.1, h.2.2.2.2.2.2.2.mn q⟩
theorem i_m1 (x : Int32) : x - nI 1 = x + Int32.ofInt (-1) := by rw [Int32.sub_eq_add_neg]; rfl
theorem mx_m1 {a x : Nat} (ha : a < 2 ^ 20) (hx : x < 2 ^ 20) : (if nI a - nI 1 < nI x then nI x else nI a - nI 1) = nI (max a (x + 1)) - nI 1 := by
  by_cases h : a < x + 1
  · rw [if_pos (by rw [Int32.lt_iff_toInt_lt, pk_sub_toInt (by omega) (by omega), nI_toInt (by omega)]; omega), Nat.max_eq_right (by omega), pk_sub (by omega), Nat.add_sub_cancel]
  · rw [if_neg (by rw [Int32.lt_iff_toInt_lt, pk_sub_toInt (by omega) (by omega), nI_toInt (by omega)]; omega), Nat.max_eq_left (by omega)]
theorem bmx_le {b : Nat → Nat → Nat} {q N : Nat} : ∀ n, (∀ i, i < n → b i q + 1 ≤ N) → bmx b q n ≤ N
  | 0, _ => Nat.zero_le _
  | n + 1, h => by
    have := bmx_le n (fun i hi => h i (by omega))
    have := h n (by omega)
    rw [bmx]
    omega
theorem bmx_c {b b' : Nat → Nat → Nat} {q : Nat} : ∀ n, (∀ i, i < n → b i = b' i) → bmx b q n = bmx b' q n
  | 0, _ => rfl
  | n + 1, h => by rw [bmx, bmx, bmx_c n (fun i hi => h i (by omega)), h n (by omega)]
theorem bfo_c {b b' : Nat → Nat → Nat} {c : Nat} : ∀ n, (∀ i, i < n → b i = b' i) → bfo b c n = bfo b' c n
  | 0, _ => rfl
  | n + 1, h => by rw [bfo, bfo, bfo_c n (fun i hi => h i (by omega)), h n (by omega)]
/-- what a tell writes of the class: the fault, the drafter, the draft -/
def FD (dr : Nat) (m m' : Me) : Prop := Fx (fun x => x = 3 ∨ x = 10 ∨ (dr ≤ x ∧ x ≤ dr + 14)) (fun x => x = 11 ∨ x = 12) m m' ∧ (∀ k, k ≠ 6 → k ≠ 7 → gI m' 3 k = gI m 3 k) ∧ gI m' 10 4 = gI m 10 4
theorem FD.rf {dr : Nat} {m : Me} : FD dr m m := ⟨Fx.rf, fun _ _ _ => rfl, rfl⟩
theorem FD.tr {dr : Nat} {m m' m'' : Me} (h : FD dr m m') (k : FD dr m' m'') : FD dr m m'' := ⟨h.1.tr k.1, fun x a b => (k.2.1 x a b).trans (h.2.1 x a b), k.2.2.trans h.2.2⟩
theorem Fz.fd {dr : Nat} {m m' : Me} (c : Fz m m') : FD dr m m' := ⟨c.1.mn (fun x h => Or.inl h) (fun x h => h.elim), c.2, by rw [c.1.at (by decide)]⟩
theorem FD.pl {dr x : Nat} {m m' : Me} {r : Nat → Int32} (c : FD dr m m') (hdr : 226 ≤ dr) (h : dr ≤ x ∧ x ≤ dr + 14) : FD dr m (sI m' x r) := ⟨Fx.I c.1 (Or.inr (Or.inr h)), fun k a b => by rw [gI_n (by omega)]; exact c.2.1 k a b, by rw [gI_n (by omega)]; exact c.2.2⟩
theorem FD.nm {dr x : Nat} {m m' : Me} {r : Nat → Int64} (c : FD dr m m') (h : x = 11 ∨ x = 12) : FD dr m (sJ m' x r) := ⟨Fx.J c.1 h, c.2.1, c.2.2⟩
theorem FD.fa {dr k : Nat} {m m' : Me} {v : Int32} (c : FD dr m m') (h : k ≠ 4) : FD dr m (sI m' 10 (upd (gI m' 10) k v)) := ⟨Fx.I c.1 (Or.inr (Or.inl rfl)), fun j a b => by rw [gI_n (by decide)]; exact c.2.1 j a b, by rw [gI_s, upd_ne h.symm]; exact c.2.2⟩
theorem FD.w3 {dr : Nat} {m m' : Me} (c : FD dr m m') (h : Wf10 m.1 (gR m) 3) : Wf10 m'.1 (gR m') 3 := c.1.to (F := fun q s => Wf10 q s 3) h
theorem FD.w0 {dr : Nat} {m m' : Me} (c : FD dr m m') (h : Wf0 m.1 (gR m) 10) : Wf0 m'.1 (gR m') 10 := c.1.to (F := fun q s => Wf0 q s 10) h
theorem FD.w7 {dr : Nat} {m m' : Me} (c : FD dr m m') (h : Wf7 m.1 (gR m) dr) : Wf7 m'.1 (gR m') dr := c.1.to (F := fun q s => Wf7 q s dr) h
theorem FD.tk {dr : Nat} {m m' : Me} {B : Nat → Nat} {n z : Nat} (c : FD dr m m') (hdr : 226 ≤ dr) (h : TkX m B n z) : TkX m' B n z := h.keep (c.2.1 4 (by decide) (by decide)) (c.2.1 5 (by decide) (by decide)) (c.1.at (by omega)) (c.1.at (by omega)) (by rw [c.1.aj (by decide)])
/-- what no fault writes -/
theorem DrC.fz {m m' : Me} {dr b : Nat} {D : Dr} (h : DrC m dr D b) (hdr : 226 ≤ dr) (c : Fz m m') : DrC m' dr D b := by
  have e : ∀ x, x ≠ 3 → gI m' x = gI m x := fun x q => c.1.at q
  have j : ∀ x, gJ m' x = gJ m x := fun x => c.1.aj (fun a => a)
  obtain ⟨h1, h2, h3, h4, h5, h6, h7, h8⟩ := h
  refine ⟨?_, ?_, ?_, ?_, ?_, ?_, ?_, h8.of (e _ (by omega)) (e _ (by omega)) (e _ (by omega)) rfl⟩
  · rw [e dr (by omega)]; exact h1
  · rw [e _ (by omega)]; exact h2
  · rw [e _ (by omega)]; exact h3
  · rw [e _ (by omega), e _ (by omega)]; exact h4
  · rw [e _ (by omega), e _ (by omega), e _ (by omega), e _ (by omega)]; exact h5
  · unfold NmC; rw [j, j]; exact h6
  · rw [e _ (by decide)]; exact h7
theorem DrC.ro {m m' : Me} {dr b : Nat} {D : Dr} {l : List Nat} (h : DrC m dr D b) (hdr : 226 ≤ dr) (hl : NmO l) (ho : rwO D l) (h5 : D.n 1 < 5) (h8 : D.n 0 ≤ 8) (hz : D.n 0 = 0 ↔ D.n 1 = 0)
    (a : ∀ k, gI m' dr k = if k = 1 then nI (D.n 1 + 1) else if k = 0 then nI l.length else gI m dr k)
    (w : ∀ c, c < 40 → gI m' (dr + 1) c = if c / 8 = D.n 1 ∧ c % 8 < l.length then rwC (l.getD (c % 8) 0) else gI m (dr + 1) c)
    (e : ∀ x, x ≠ 3 → x ≠ dr → x ≠ dr + 1 → gI m' x = gI m x) (j : ∀ x, gJ m' x = gJ m x) : DrC m' dr (rwD D l) b := by
  obtain ⟨⟨h0, h1, h2, h3, h4, h5', h6, h7⟩, hw, hf, hr, hu, hn, hx, hlw⟩ := h
  have hi : ∀ j, j < 100 → (rwD D l).i j = D.i j := fun j hj => if_neg (by omega)
  have hll := hl.2.1
  have hl8 := hl.2.2
  have hwd : rwW D l = l.length := ho.1.symm
  refine ⟨⟨?_, ?_, ?_, ?_, ?_, ?_, ?_, ?_⟩, fun c hc => ?_, ?_, fun h hh => ?_, fun u hu' => ?_, ?_, ?_, hlw.of (e _ (by omega) (by omega) (by omega)) (e _ (by omega) (by omega) (by omega)) (e _ (by omega) (by omega) (by omega)) rfl⟩
  · rw [a]; show _ = nI (rwW D l); rw [hwd]; rfl
  · rw [a]; rfl
  · rw [a]; exact h2
  · rw [a]; exact h3
  · rw [a]; exact h4
  · rw [a, hi 0 (by decide)]; exact h5'
  · rw [a, hi 1 (by decide)]; exact h6
  · rw [a, hi 2 (by decide)]; exact h7
  · rw [w c hc]
    show _ = if c % 8 < rwW D l ∧ c / 8 < D.n 1 + 1 then (rwD D l).i (100 + c) else -1
    rw [hwd]
    by_cases q : c / 8 = D.n 1 ∧ c % 8 < l.length
    · rw [if_pos q, if_pos ⟨q.2, by omega⟩, show (rwD D l).i (100 + c) = rwC (l.getD (100 + c - (100 + 8 * D.n 1)) 0) from if_pos (by omega), show 100 + c - (100 + 8 * D.n 1) = c % 8 by omega]
    · rw [if_neg q, hw c hc]
      by_cases g : c % 8 < l.length ∧ c / 8 < D.n 1 + 1
      · have hd : l.length = D.n 0 := by
          have := hwd
          unfold rwW at this
          rw [if_neg (by omega)] at this
          exact this.symm
        rw [if_pos g, if_pos ⟨by omega, by omega⟩, show (rwD D l).i (100 + c) = D.i (100 + c) from if_neg (by omega)]
      · rw [if_neg g, if_neg (fun y => g ⟨by
          have := hwd
          unfold rwW at this
          rw [if_neg (by omega)] at this
          omega, by omega⟩)]
  · rw [e _ (by omega) (by omega) (by omega)]; exact hf
  · rw [e _ (by omega) (by omega) (by omega), e _ (by omega) (by omega) (by omega), hi _ (by omega), hi _ (by omega)]; exact hr h hh
  · have hu' : u < D.n 3 := hu'
    have h36 := hn.2.1
    rw [e _ (by omega) (by omega) (by omega), e _ (by omega) (by omega) (by omega), e _ (by omega) (by omega) (by omega), e _ (by omega) (by omega) (by omega), hi _ (by omega), hi _ (by omega), hi _ (by omega), hi _ (by omega)]; exact hu u hu'
  · unfold NmC; rw [j, j]; exact hn
  · rw [e 10 (by decide) (by omega) (by omega)]; exact hx
theorem DrC.ho {m m' : Me} {dr b v y : Nat} {D : Dr} {l : List Nat} (h : DrC m dr D b) (hdr : 226 ≤ dr) (hl : NmO l) (h2 : D.n 2 < 4)
    (a : gI m' dr = upd (gI m dr) 2 (nI (D.n 2 + 1))) (r : gI m' (dr + 3) = upd (gI m (dr + 3)) (D.n 2) (nI v)) (t : gI m' (dr + 4) = upd (gI m (dr + 4)) (D.n 2) (nI y))
    (e : ∀ x, x ≠ 3 → x ≠ dr → x ≠ dr + 3 → x ≠ dr + 4 → gI m' x = gI m x) (j : gJ m' 11 = vp_updL (gJ m 11) (D.n 2) (lN (nkC l))) (j2 : gJ m' 12 = gJ m 12) : DrC m' dr (hoD D l v y) b := by
  obtain ⟨⟨h0, h1, h2', h3, h4, h5', h6, h7⟩, hw, hf, hr, hu, hn, hx, hlw⟩ := h
  have hi : ∀ q, q ≠ 10 + D.n 2 → q ≠ 20 + D.n 2 → (hoD D l v y).i q = D.i q := fun q h1 h2 => (up_n h2).trans (up_n h1)
  have hi1 : (hoD D l v y).i (10 + D.n 2) = nI v := (up_n (by omega)).trans up_s
  have hi2 : (hoD D l v y).i (20 + D.n 2) = nI y := up_s
  have hnm : ∀ h, h ≠ D.n 2 → (hoD D l v y).nm 0 h = D.nm 0 h := fun h q => by
    show va_up D.nm 0 (va_up (D.nm 0) (D.n 2) l) 0 h = _
    rw [up_s, up_n q]
  have hns : (hoD D l v y).nm 0 (D.n 2) = l := by
    show va_up D.nm 0 (va_up (D.nm 0) (D.n 2) l) 0 (D.n 2) = _
    rw [up_s, up_s]
  refine ⟨⟨?_, ?_, ?_, ?_, ?_, ?_, ?_, ?_⟩, fun c hc => ?_, ?_, fun h hh => ?_, fun u hu' => ?_, ⟨by show D.n 2 + 1 ≤ 4; omega, hn.2.1, fun h hh => ?_, fun u hu' => ?_⟩, ?_, hlw.of (e _ (by omega) (by omega) (by omega) (by omega)) (e _ (by omega) (by omega) (by omega) (by omega)) (e _ (by omega) (by omega) (by omega) (by omega)) rfl⟩
  · rw [a, upd_ne (by decide)]; exact h0
  · rw [a, upd_ne (by decide)]; exact h1
  · rw [a, upd_same]; rfl
  · rw [a, upd_ne (by decide)]; exact h3
  · rw [a, upd_ne (by decide)]; exact h4
  · rw [a, upd_ne (by decide), hi _ (by omega) (by omega)]; exact h5'
  · rw [a, upd_ne (by decide), hi _ (by omega) (by omega)]; exact h6
  · rw [a, upd_ne (by decide), hi _ (by omega) (by omega)]; exact h7
  · rw [e _ (by omega) (by omega) (by omega) (by omega), hi _ (by omega) (by omega)]; exact hw c hc
  · rw [e _ (by omega) (by omega) (by omega) (by omega)]; exact hf
  · rw [r, t]
    by_cases q : h = D.n 2
    · rw [q, upd_same, upd_same, hi1, hi2]; exact ⟨rfl, rfl⟩
    · rw [upd_ne q, upd_ne q, hi _ (by omega) (by omega), hi _ (by omega) (by omega)]; exact hr h hh
  · have hu' : u < D.n 3 := hu'
    rw [e _ (by omega) (by omega) (by omega) (by omega), e _ (by omega) (by omega) (by omega) (by omega), e _ (by omega) (by omega) (by omega) (by omega), e _ (by omega) (by omega) (by omega) (by omega), hi _ (by omega) (by omega), hi _ (by omega) (by omega), hi _ (by omega) (by omega), hi _ (by omega) (by omega)]; exact hu u hu'
  · have hh : h < D.n 2 + 1 := hh
    rw [j]
    rcases lt_dec hh with rfl | hh
    · rw [updL_same, hns]; exact ⟨rfl, hl⟩
    · rw [updL_ne (by omega), hnm h (by omega)]; exact hn.2.2.1 h hh
  · rw [j2]; exact hn.2.2.2 u hu'
  · rw [e 10 (by decide) (by omega) (by omega) (by omega)]; exact hx
theorem DrC.us {m m' : Me} {dr b v y x : Nat} {D : Dr} {l k : List Nat} (h : DrC m dr D b) (hdr : 226 ≤ dr) (hl : NmO l) (h3 : D.n 3 < 6) (h24 : D.n 2 ≤ 4)
    (a : gI m' dr = upd (gI m dr) 3 (nI (D.n 3 + 1))) (r5 : gI m' (dr + 5) = upd (gI m (dr + 5)) (D.n 3) (if fnd D k < D.n 2 then nI (fnd D k) else -1)) (r6 : gI m' (dr + 6) = upd (gI m (dr + 6)) (D.n 3) (nI v)) (r7 : gI m' (dr + 7) = upd (gI m (dr + 7)) (D.n 3) (nI y)) (r8 : gI m' (dr + 8) = upd (gI m (dr + 8)) (D.n 3) (nI x))
    (e : ∀ x, x ≠ 3 → x ≠ dr → (x < dr + 5 ∨ dr + 8 < x) → gI m' x = gI m x) (j : gJ m' 12 = vp_updL (gJ m 12) (D.n 3) (lN (nkC l))) (j2 : gJ m' 11 = gJ m 11) : DrC m' dr (usD D l k v y x) b := by
  obtain ⟨⟨h0, h1, h2', h3', h4, h5', h6, h7⟩, hw, hf, hr, hu, hn, hx, hlw⟩ := h
  have hi : ∀ q, q ≠ 30 + D.n 3 → q ≠ 40 + D.n 3 → q ≠ 50 + D.n 3 → q ≠ 60 + D.n 3 → (usD D l k v y x).i q = D.i q := fun q h1 h2 h3 h4 => (up_n h4).trans ((up_n h3).trans ((up_n h2).trans (up_n h1)))
  refine ⟨⟨?_, ?_, ?_, ?_, ?_, ?_, ?_, ?_⟩, fun c hc => ?_, ?_, fun h hh => ?_, fun u hu' => ?_, ⟨hn.1, by show D.n 3 + 1 ≤ 6; omega, fun h hh => ?_, fun u hu' => ?_⟩, ?_, hlw.of (e _ (by omega) (by omega) (by omega)) (e _ (by omega) (by omega) (by omega)) (e _ (by omega) (by omega) (by omega)) rfl⟩
  · rw [a, upd_ne (by decide)]; exact h0
  · rw [a, upd_ne (by decide)]; exact h1
  · rw [a, upd_ne (by decide)]; exact h2'
  · rw [a, upd_same]; rfl
  · rw [a, upd_ne (by decide)]; exact h4
  · rw [a, upd_ne (by decide), hi _ (by omega) (by omega) (by omega) (by omega)]; exact h5'
  · rw [a, upd_ne (by decide), hi _ (by omega) (by omega) (by omega) (by omega)]; exact h6
  · rw [a, upd_ne (by decide), hi _ (by omega) (by omega) (by omega) (by omega)]; exact h7
  · rw [e _ (by omega) (by omega) (by omega), hi _ (by omega) (by omega) (by omega) (by omega)]; exact hw c hc
  · rw [e _ (by omega) (by omega) (by omega)]; exact hf
  · rw [e _ (by omega) (by omega) (by omega), e _ (by omega) (by omega) (by omega), hi _ (by omega) (by omega) (by omega) (by omega), hi _ (by omega) (by omega) (by omega) (by omega)]; exact hr h hh
  · have hu' : u < D.n 3 + 1 := hu'
    rw [r5, r6, r7, r8]
    rcases lt_dec hu' with rfl | hu'
    · rw [upd_same, upd_same, upd_same, upd_same]
      refine ⟨?_, ?_, ?_, up_s.symm⟩
      · show _ = va_up (va_up (va_up (va_up D.i _ _) _ _) _ _) _ _ _
        rw [up_n (by omega), up_n (by omega), up_n (by omega), up_s]
      · show _ = va_up (va_up (va_up (va_up D.i _ _) _ _) _ _) _ _ _
        rw [up_n (by omega), up_n (by omega), up_s]
      · show _ = va_up (va_up (va_up (va_up D.i _ _) _ _) _ _) _ _ _
        rw [up_n (by omega), up_s]
    · rw [upd_ne (by omega), upd_ne (by omega), upd_ne (by omega), upd_ne (by omega), hi _ (by omega) (by omega) (by omega) (by omega), hi _ (by omega) (by omega) (by omega) (by omega), hi _ (by omega) (by omega) (by omega) (by omega), hi _ (by omega) (by omega) (by omega) (by omega)]; exact hu u hu'
  · rw [j2]; exact hn.2.2.1 h hh
  · have hu' : u < D.n 3 + 1 := hu'
    rw [j]
    show vp_updL (gJ m 12) (D.n 3) (lN (nkC l)) u = lN (nkC (va_up D.nm 1 (va_up (D.nm 1) (D.n 3) l) 1 u)) ∧ NmO (va_up D.nm 1 (va_up (D.nm 1) (D.n 3) l) 1 u)
    rw [up_s]
    rcases lt_dec hu' with rfl | hu'
    · rw [updL_same, up_s]; exact ⟨rfl, hl⟩
    · rw [updL_ne (by omega), up_n (by omega)]; exact hn.2.2.2 u hu'
  · rw [e 10 (by decide) (by omega) (by omega)]; exact hx
theorem DrC.ba {m m' : Me} {dr b x y f : Nat} {D : Dr} (h : DrC m dr D b) (hdr : 226 ≤ dr) (hx8 : x < 8) (hy5 : y < 5) (hn36 : D.n 3 ≤ 6)
    (a : gI m' dr = upd (gI m dr) 4 (nI (D.n 4 + 1))) (r : gI m' (dr + 2) = upd (gI m (dr + 2)) (y * 8 + x) (nI f))
    (t2 : gI m' 10 2 = nI (max (bmx D.bk 0 (D.n 4)) (x + 1)) - nI 1) (t3 : gI m' 10 3 = nI (max (bmx D.bk 1 (D.n 4)) (y + 1)) - nI 1)
    (e : ∀ x, x ≠ 3 → x ≠ dr → x ≠ dr + 2 → x ≠ 10 → gI m' x = gI m x) (j : ∀ x, gJ m' x = gJ m x) : DrC m' dr (bkD D x y f) b := by
  obtain ⟨⟨h0, h1, h2', h3', h4, h5', h6, h7⟩, hw, hf, hr, hu, hn, hx, hlw⟩ := h
  have hb : ∀ i, i < D.n 4 → (bkD D x y f).bk i = D.bk i := fun i hi => up_n (by omega)
  have hb2 : (bkD D x y f).bk (D.n 4) = fun q => if q = 0 then x else if q = 1 then y else f := up_s
  refine ⟨⟨?_, ?_, ?_, ?_, ?_, ?_, ?_, ?_⟩, fun c hc => ?_, fun c hc => ?_, fun h hh => ?_, fun u hu' => ?_, ?_, ⟨?_, ?_⟩, hlw.of (e _ (by omega) (by omega) (by omega) (by omega)) (e _ (by omega) (by omega) (by omega) (by omega)) (e _ (by omega) (by omega) (by omega) (by omega)) rfl⟩
  · rw [a, upd_ne (by decide)]; exact h0
  · rw [a, upd_ne (by decide)]; exact h1
  · rw [a, upd_ne (by decide)]; exact h2'
  · rw [a, upd_ne (by decide)]; exact h3'
  · rw [a, upd_same]; rfl
  · rw [a, upd_ne (by decide)]; exact h5'
  · rw [a, upd_ne (by decide)]; exact h6
  · rw [a, upd_ne (by decide)]; exact h7
  · rw [e _ (by omega) (by omega) (by omega) (by omega)]; exact hw c hc
  · rw [r]
    show _ = nI (bfo (bkD D x y f).bk c (D.n 4 + 1))
    rw [bfo, hb2, bfo_c _ hb]
    show _ = nI (if 8 * y + x = c then f else _)
    by_cases q : 8 * y + x = c
    · rw [if_pos q, show c = y * 8 + x by omega, upd_same]
    · rw [if_neg q, upd_ne (by omega)]; exact hf c hc
  · rw [e _ (by omega) (by omega) (by omega) (by omega), e _ (by omega) (by omega) (by omega) (by omega)]; exact hr h hh
  · rw [e _ (by omega) (by omega) (by omega) (by omega), e _ (by omega) (by omega) (by omega) (by omega), e _ (by omega) (by omega) (by omega) (by omega), e _ (by omega) (by omega) (by omega) (by omega)]; exact hu u hu'
  · unfold NmC; rw [j, j]; exact hn
  · show _ = nI (bmx (bkD D x y f).bk 0 (D.n 4 + 1)) - nI 1
    rw [t2, bmx, hb2, bmx_c _ hb]
    rfl
  · show _ = nI (bmx (bkD D x y f).bk 1 (D.n 4 + 1)) - nI 1
    rw [t3, bmx, hb2, bmx_c _ hb]
    rfl
theorem DrC.int {m m' : Me} {dr b k v : Nat} {D : Dr} (h : DrC m dr D b) (hdr : 226 ≤ dr) (hk : k < 3)
    (a : gI m' dr = upd (gI m dr) (5 + k) (nI v)) (e : ∀ x, x ≠ 3 → x ≠ dr → gI m' x = gI m x) (j : ∀ x, gJ m' x = gJ m x) : DrC m' dr (inD D k v) b := by
  obtain ⟨⟨h0, h1, h2', h3', h4, h5', h6, h7⟩, hw, hf, hr, hu, hn, hx, hlw⟩ := h
  have hi : ∀ q, q ≠ k → (inD D k v).i q = D.i q := fun q h => up_n h
  refine ⟨⟨?_, ?_, ?_, ?_, ?_, ?_, ?_, ?_⟩, fun c hc => ?_, ?_, fun h hh => ?_, fun u hu' => ?_, ?_, ?_, hlw.of (e _ (by omega) (by omega)) (e _ (by omega) (by omega)) (e _ (by omega) (by omega)) rfl⟩
  · rw [a, upd_ne (by omega)]; exact h0
  · rw [a, upd_ne (by omega)]; exact h1
  · rw [a, upd_ne (by omega)]; exact h2'
  · rw [a, upd_ne (by omega)]; exact h3'
  · rw [a, upd_ne (by omega)]; exact h4
  · rw [a]
    by_cases q : k = 0
    · subst q; rw [upd_same]; show _ = va_up D.i 0 (nI v) 0; rw [up_s]
    · rw [upd_ne (by omega), hi _ (by omega)]; exact h5'
  · rw [a]
    by_cases q : k = 1
    · subst q; rw [upd_same]; show _ = va_up D.i 1 (nI v) 1; rw [up_s]
    · rw [upd_ne (by omega), hi _ (by omega)]; exact h6
  · rw [a]
    by_cases q : k = 2
    · subst q; rw [upd_same]; show _ = va_up D.i 2 (nI v) 2; rw [up_s]
    · rw [upd_ne (by omega), hi _ (by omega)]; exact h7
  · rw [e _ (by omega) (by omega), hi _ (by omega)]; exact hw c hc
  · rw [e _ (by omega) (by omega)]; exact hf
  · rw [e _ (by omega) (by omega), e _ (by omega) (by omega), hi _ (by omega), hi _ (by omega)]; exact hr h hh
  · rw [e _ (by omega) (by omega), e _ (by omega) (by omega), e _ (by omega) (by omega), e _ (by omega) (by omega), hi _ (by omega), hi _ (by omega), hi _ (by omega), hi _ (by omega)]; exact hu u hu'
  · unfold NmC; rw [j, j]; exact hn
  · rw [e 10 (by decide) (by omega)]; exact hx
theorem DrC.lw {m m' : Me} {dr b b' k : Nat} {D : Dr} {x : List Br × Cs} {C : Cs} (h : DrC m dr D b) (hdr : 226 ≤ dr) (c2 : C.length ≤ b) (c3 : ∀ k, k < 4 → ∃ s, s + (lwK s (D.l k).1 (D.l k).2).length ≤ b ∧ gI m (dr + 9 + 2) k = nI s ∧ Lies C s (lwK s (D.l k).1 (D.l k).2))
    (l1 : LD m' (dr + 9) (C ++ lwK C.length x.1 x.2)) (l2 : (C ++ lwK C.length x.1 x.2).length ≤ b') (l3 : gI m' (dr + 9 + 2) = upd (gI m (dr + 9 + 2)) k (nI C.length)) (hb : b ≤ b')
    (e : ∀ x, (x < dr + 9 ∨ dr + 14 < x) → gI m' x = gI m x) (j : ∀ x, gJ m' x = gJ m x) : DrC m' dr (lwD D k x) b' := by
  obtain ⟨h1, hw, hf, hr, hu, hn, hx, -⟩ := h
  refine ⟨by rw [e dr (by omega)]; exact h1, by rw [e _ (by omega)]; exact hw, by rw [e _ (by omega)]; exact hf, by rw [e _ (by omega), e _ (by omega)]; exact hr, by rw [e _ (by omega), e _ (by omega), e _ (by omega), e _ (by omega)]; exact hu, by unfold NmC; rw [j, j]; exact hn, by rw [e 10 (by omega)]; exact hx, C ++ lwK C.length x.1 x.2, l1, l2, fun q hq => ?_⟩
  show ∃ s, s + (lwK s (va_up D.l k x q).1 (va_up D.l k x q).2).length ≤ b' ∧ gI m' (dr + 9 + 2) q = nI s ∧ Lies _ s (lwK s (va_up D.l k x q).1 (va_up D.l k x q).2)
  rw [l3]
  by_cases w : q = k
  · refine ⟨C.length, ?_, by rw [w, upd_same], ?_⟩
    · rw [drU w, ← List.length_append]; exact l2
    · rw [drU w]
      exact fun i c hi => ap_r hi
  · obtain ⟨s, s1, s2, s3⟩ := c3 q hq
    rw [up_n w, upd_ne w]
    exact ⟨s, by omega, s2, s3.mn (fun i c hi => ap_l hi)⟩
