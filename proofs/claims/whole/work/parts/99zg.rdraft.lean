/-! the reference's draft: one side of its arrays -/
def bz (r : Nat) : Nat := if r = 286 ∨ r = 287 then 40 else if r = 289 ∨ r = 290 ∨ r = 303 ∨ r = 304 then 4 else if 292 ≤ r ∧ r ≤ 295 then 6 else if 297 ≤ r ∧ r ≤ 299 then 12 else if 305 ≤ r ∧ r ≤ 309 then 130 else if r = 310 ∨ r = 311 then 420 else 1
/-- place j of row r is of side sd -/
def SD (sd r j : Nat) : Prop := bz r * sd ≤ j ∧ j < bz r * sd + bz r
/-- only side sd is written -/
def FS (sd : Nat) (m m' : Me) : Prop := ∀ r j, 284 ≤ r → r ≤ 311 → ¬ SD sd r j → gI m' r j = gI m r j
/-- what a tell that is no law writes -/
def FV (sd : Nat) (m m' : Me) : Prop := Fx (fun x => x = 274 ∨ (283 ≤ x ∧ x ≤ 302)) (fun x => x = 282) m m' ∧ (∀ k, k ≠ 11 → k ≠ 13 → k ≠ 14 → k ≠ 15 → k ≠ 16 → k ≠ 20 → gI m' 274 k = gI m 274 k) ∧ FS sd m m'
theorem FV.rf {sd : Nat} {m : Me} : FV sd m m := ⟨Fx.rf, fun _ _ _ _ _ _ _ => rfl, fun _ _ _ _ _ => rfl⟩
theorem FV.tr {sd : Nat} {m m' m'' : Me} (h : FV sd m m') (k : FV sd m' m'') : FV sd m m'' := ⟨h.1.tr k.1, fun x a b c d e f => (k.2.1 x a b c d e f).trans (h.2.1 x a b c d e f), fun r j a b c => (k.2.2 r j a b c).trans (h.2.2 r j a b c)⟩
theorem FW.fv {sd : Nat} {m m' : Me} (c : FW m m') : FV sd m m' := ⟨c.1.mn (fun x h => Or.inl h) (fun x h => h.elim), fun k a b d e f _ => c.2 k a b d e f, fun r j a b _ => by rw [c.1.at (by omega)]⟩
theorem FN.fv {sd : Nat} {m m' : Me} (c : FN m m') : FV sd m m' := ⟨c.1.mn (fun x h => by omega) (fun x h => h), fun k a b d _ _ f => c.2 k a b d f, fun r j a b _ => by rw [c.1.at (by omega)]⟩
theorem FV.up {sd r j : Nat} {m m' : Me} {v : Int32} (c : FV sd m m') (hr : 284 ≤ r ∧ r ≤ 302) (h : SD sd r j) : FV sd m (sI m' r (upd (gI m' r) j v)) := ⟨Fx.I c.1 (by omega), fun k a b d e f g => by rw [gI_n (by omega)]; exact c.2.1 k a b d e f g, fun r' j' a b n => by
  by_cases q : r' = r
  · subst q
    rw [gI_s, upd_ne (fun w => n (by rw [w]; exact h))]
    exact c.2.2 r' j' a b n
  · rw [gI_n q]; exact c.2.2 r' j' a b n⟩
theorem FV.wf {sd : Nat} {m m' : Me} (c : FV sd m m') (h : Wf12 m.1 (gR m)) : Wf12 m'.1 (gR m') := c.1.to (F := Wf12) h
theorem FV.tk {sd : Nat} {m m' : Me} {B : Nat → Nat} {n z : Nat} (c : FV sd m m') (h : TkR m B n z) : TkR m' B n z := ⟨h.1, h.2.1, h.2.2.1, fun j hj => by rw [c.1.at (by decide), c.1.at (by decide), c.1.at (by decide), c.1.aj (by decide)]; exact h.2.2.2 j hj⟩
theorem GM.st {m : Me} {B : Nat → Nat} {n z r : Nat} {s : Nat × Nat} {x : Nat → Int32} (h : GM m B n z s) (hr : r ≠ 274) : GM (sI m r x) B n z s := by
  unfold GM
  rw [gI_n (Ne.symm hr)]
  exact h
theorem WQ.st {m : Me} {B : Nat → Nat} {n z r : Nat} {s w : Nat × Nat} {x : Nat → Int32} (h : WQ m B n z s w) (hr : r ≠ 274) : WQ (sI m r x) B n z s w := by
  unfold WQ
  rw [gI_n (Ne.symm hr)]
  exact h
theorem TkR.st {m : Me} {B : Nat → Nat} {n z r : Nat} {x : Nat → Int32} (h : TkR m B n z) (hr : 283 ≤ r) : TkR (sI m r x) B n z := ⟨h.1, h.2.1, h.2.2.1, fun j hj => by rw [gI_n (by omega), gI_n (by omega), gI_n (by omega), gJ_I]; exact h.2.2.2 j hj⟩
/-- counts and numbers, whatever is wrong -/
def RdU (m : Me) (sd : Nat) (D : Dr) : Prop := (gI m 284 sd = nI (D.n 0) ∧ gI m 285 sd = nI (D.n 1) ∧ gI m 288 sd = nI (D.n 2) ∧ gI m 291 sd = nI (D.n 3) ∧ gI m 296 sd = nI (D.n 4)) ∧ (gI m 300 sd = D.i 0 ∧ gI m 301 sd = D.i 1 ∧ gI m 302 sd = D.i 2) ∧ (∀ h, h < D.n 2 → gI m 289 (4 * sd + h) = D.i (10 + h) ∧ gI m 290 (4 * sd + h) = D.i (20 + h)) ∧ (∀ u, u < D.n 3 → gI m 293 (6 * sd + u) = D.i (40 + u) ∧ gI m 294 (6 * sd + u) = D.i (50 + u) ∧ gI m 295 (6 * sd + u) = D.i (60 + u)) ∧ (∀ b, b < D.n 4 → gI m 297 (12 * sd + b) = nI (D.bk b 0) ∧ gI m 298 (12 * sd + b) = nI (D.bk b 1) ∧ gI m 299 (12 * sd + b) = nI (D.bk b 2)) ∧ gI m 274 20 = nI (D.n 2 + D.n 3)
/-- what stands if nothing is wrong -/
def RdC (m : Me) (sd : Nat) (D : Dr) : Prop := (∀ c, c < 40 → c % 8 < D.n 0 → c / 8 < D.n 1 → gI m 286 (40 * sd + c) = D.i (100 + c)) ∧ (∀ u, u < D.n 3 → gI m 292 (6 * sd + u) = D.i (30 + u)) ∧ NmM m D
theorem RdU.fv {m m' : Me} {sd : Nat} {D : Dr} (h : RdU m sd D) (e : ∀ x, 284 ≤ x → x ≤ 302 → gI m' x = gI m x) (e2 : gI m' 274 20 = gI m 274 20) : RdU m' sd D := by
  unfold RdU
  rw [e 284 (by decide) (by decide), e 285 (by decide) (by decide), e 288 (by decide) (by decide), e 291 (by decide) (by decide), e 296 (by decide) (by decide), e 300 (by decide) (by decide), e 301 (by decide) (by decide), e 302 (by decide) (by decide), e 289 (by decide) (by decide), e 290 (by decide) (by decide), e 293 (by decide) (by decide), e 294 (by decide) (by decide), e 295 (by decide) (by decide), e 297 (by decide) (by decide), e 298 (by decide) (by decide), e 299 (by decide) (by decide), e2]
  exact h
theorem RdC.fv {m m' : Me} {sd : Nat} {D : Dr} (h : RdC m sd D) (e : ∀ x, 283 ≤ x → x ≤ 302 → gI m' x = gI m x) (e2 : gJ m' 282 = gJ m 282) : RdC m' sd D := by
  unfold RdC NmM
  rw [e 286 (by decide) (by decide), e 292 (by decide) (by decide), e 283 (by decide) (by decide), e2]
  exact h
/-- one entry more -/
theorem up_k {f : Nat → Int32} {b n k : Nat} {v : Int32} (h : k < n) : upd f (b + n) v (b + k) = f (b + k) := upd_ne (by omega)
section RDT
variable {m m' : Me} {sd v y x f : Nat} {D : Dr} {l k : List Nat}
theorem Rd.ho (U : RdU m sd D) (h23 : D.n 2 ≤ 4 ∧ D.n 3 ≤ 6) (e : ∀ x, x ≠ 274 → x ≠ 283 → x ≠ 288 → x ≠ 289 → x ≠ 290 → gI m' x = gI m x) (a : gI m' 288 = upd (gI m 288) sd (nI (D.n 2 + 1))) (r : gI m' 289 = upd (gI m 289) (4 * sd + D.n 2) (nI v)) (t : gI m' 290 = upd (gI m 290) (4 * sd + D.n 2) (nI y)) (nn : gI m' 274 20 = nI (D.n 2 + D.n 3 + 1)) (j : gJ m' 282 = vp_updL (gJ m 282) (D.n 2 + D.n 3) (lN (nkM l))) (b : gI m' 283 = upd (gI m 283) (D.n 2 + D.n 3) (nI (D.n 2))) : RdU m' sd (hoD D l v y) ∧ (RdC m sd D → RdC m' sd (hoD D l v y)) := by
  have hi : ∀ q, q ≠ 10 + D.n 2 → q ≠ 20 + D.n 2 → (hoD D l v y).i q = D.i q := fun q h1 h2 => (up_n h2).trans (up_n h1)
  have hi1 : (hoD D l v y).i (10 + D.n 2) = nI v := by show va_up (va_up D.i _ _) _ _ _ = _; rw [up_n (by omega), up_s]
  have hi2 : (hoD D l v y).i (20 + D.n 2) = nI y := by show va_up (va_up D.i _ _) _ _ _ = _; rw [up_s]
  have hnm : ∀ h, h ≠ D.n 2 → (hoD D l v y).nm 0 h = D.nm 0 h := fun h q => by
    show va_up D.nm 0 (va_up (D.nm 0) (D.n 2) l) 0 h = _
    rw [up_s, up_n q]
  have hns : (hoD D l v y).nm 0 (D.n 2) = l := by
    show va_up D.nm 0 (va_up (D.nm 0) (D.n 2) l) 0 (D.n 2) = _
    rw [up_s, up_s]
  have E : ∀ x, 284 ≤ x → x ≠ 288 → x ≠ 289 → x ≠ 290 → gI m' x = gI m x := fun x h a b c => e x (by omega) (by omega) a b c
  obtain ⟨⟨u0, u1, u2, u3, u4⟩, ⟨i0, i1, i2⟩, uh, uu, ub, un⟩ := U
  refine ⟨⟨⟨?_, ?_, ?_, ?_, ?_⟩, ⟨?_, ?_, ?_⟩, fun h hh => ?_, fun u hu => ?_, fun g hg => ?_, ?_⟩, fun ⟨c1, c2, c3⟩ => ⟨fun c hc a1 a2 => ?_, fun u hu => ?_, fun q hq => ?_, fun h hh => ?_, fun u hu => ?_⟩⟩
  · rw [E 284 (by decide) (by decide) (by decide) (by decide)]; exact u0
  · rw [E 285 (by decide) (by decide) (by decide) (by decide)]; exact u1
  · rw [a, upd_same]; rfl
  · rw [E 291 (by decide) (by decide) (by decide) (by decide)]; exact u3
  · rw [E 296 (by decide) (by decide) (by decide) (by decide)]; exact u4
  · rw [E 300 (by decide) (by decide) (by decide) (by decide), hi _ (by omega) (by omega)]; exact i0
  · rw [E 301 (by decide) (by decide) (by decide) (by decide), hi _ (by omega) (by omega)]; exact i1
  · rw [E 302 (by decide) (by decide) (by decide) (by decide), hi _ (by omega) (by omega)]; exact i2
  · have hh : h < D.n 2 + 1 := hh
    rw [r, t]
    rcases lt_dec hh with rfl | hh
    · rw [upd_same, upd_same, hi1, hi2]; exact ⟨rfl, rfl⟩
    · rw [up_k hh, up_k hh, hi _ (by omega) (by omega), hi _ (by omega) (by omega)]; exact uh h hh
  · have hu : u < D.n 3 := hu
    rw [E 293 (by decide) (by decide) (by decide) (by decide), E 294 (by decide) (by decide) (by decide) (by decide), E 295 (by decide) (by decide) (by decide) (by decide), hi _ (by omega) (by omega), hi _ (by omega) (by omega), hi _ (by omega) (by omega)]; exact uu u hu
  · rw [E 297 (by decide) (by decide) (by decide) (by decide), E 298 (by decide) (by decide) (by decide) (by decide), E 299 (by decide) (by decide) (by decide) (by decide)]; exact ub g hg
  · rw [nn]; show _ = nI (D.n 2 + 1 + D.n 3); congr 1; omega
  · rw [E 286 (by decide) (by decide) (by decide) (by decide), hi _ (by omega) (by omega)]; exact c1 c hc a1 a2
  · have hu : u < D.n 3 := hu
    rw [E 292 (by decide) (by decide) (by decide) (by decide), hi _ (by omega) (by omega)]; exact c2 u hu
  · have hq : q < D.n 2 + 1 + D.n 3 := hq
    rw [j, b]
    by_cases w : q = D.n 2 + D.n 3
    · rw [w, updL_same, upd_same]
      exact Or.inl ⟨D.n 2, Nat.lt_succ_self _, by rw [hns], rfl⟩
    · rw [updL_ne w, upd_ne w]
      rcases c3.1 q (by omega) with ⟨g, g1, g2, g3⟩ | ⟨g, g1, g2, g3⟩
      · exact Or.inl ⟨g, by show g < D.n 2 + 1; omega, by rw [hnm g (by omega)]; exact g2, g3⟩
      · exact Or.inr ⟨g, g1, g2, g3⟩
  · have hh : h < D.n 2 + 1 := hh
    rw [j, b]
    rcases lt_dec hh with rfl | hh
    · exact ⟨D.n 2 + D.n 3, by show D.n 2 + D.n 3 < D.n 2 + 1 + D.n 3; omega, by rw [updL_same, hns], by rw [upd_same]⟩
    · obtain ⟨q, q1, q2, q3⟩ := c3.2.1 h hh
      exact ⟨q, by show q < D.n 2 + 1 + D.n 3; omega, by rw [updL_ne (by omega), hnm h (by omega)]; exact q2, by rw [upd_ne (by omega)]; exact q3⟩
  · have hu : u < D.n 3 := hu
    rw [j]
    obtain ⟨q, q1, q2⟩ := c3.2.2 u hu
    exact ⟨q, by show q < D.n 2 + 1 + D.n 3; omega, by rw [updL_ne (by omega)]; exact q2⟩
theorem Rd.us {x0 : Int32} (U : RdU m sd D) (h23 : D.n 2 ≤ 4 ∧ D.n 3 < 6) (e : ∀ x, x ≠ 274 → x ≠ 283 → x ≠ 291 → x ≠ 292 → x ≠ 293 → x ≠ 294 → x ≠ 295 → gI m' x = gI m x) (a : gI m' 291 = upd (gI m 291) sd (nI (D.n 3 + 1))) (r2 : gI m' 292 = upd (gI m 292) (6 * sd + D.n 3) x0) (r3 : gI m' 293 = upd (gI m 293) (6 * sd + D.n 3) (nI v)) (r4 : gI m' 294 = upd (gI m 294) (6 * sd + D.n 3) (nI y)) (r5 : gI m' 295 = upd (gI m 295) (6 * sd + D.n 3) (nI x)) (nn : gI m' 274 20 = nI (D.n 2 + D.n 3 + 1)) (j : gJ m' 282 = vp_updL (gJ m 282) (D.n 2 + D.n 3) (lN (nkM l))) (b : gI m' 283 = upd (gI m 283) (D.n 2 + D.n 3) (-1)) : RdU m' sd (usD D l k v y x) ∧ ((x0 = if fnd D k < D.n 2 then nI (fnd D k) else -1) → RdC m sd D → RdC m' sd (usD D l k v y x)) := by
  have hi : ∀ q, q ≠ 30 + D.n 3 → q ≠ 40 + D.n 3 → q ≠ 50 + D.n 3 → q ≠ 60 + D.n 3 → (usD D l k v y x).i q = D.i q := fun q h1 h2 h3 h4 => (up_n h4).trans ((up_n h3).trans ((up_n h2).trans (up_n h1)))
  have n0 : (usD D l k v y x).i (30 + D.n 3) = if fnd D k < D.n 2 then nI (fnd D k) else -1 := by
    show va_up (va_up (va_up (va_up D.i _ _) _ _) _ _) _ _ _ = _
    rw [up_n (by omega), up_n (by omega), up_n (by omega), up_s]
  have n1 : (usD D l k v y x).i (40 + D.n 3) = nI v := by
    show va_up (va_up (va_up (va_up D.i _ _) _ _) _ _) _ _ _ = _
    rw [up_n (by omega), up_n (by omega), up_s]
  have n2 : (usD D l k v y x).i (50 + D.n 3) = nI y := by
    show va_up (va_up (va_up (va_up D.i _ _) _ _) _ _) _ _ _ = _
    rw [up_n (by omega), up_s]
  have n3 : (usD D l k v y x).i (60 + D.n 3) = nI x := by
    show va_up (va_up (va_up (va_up D.i _ _) _ _) _ _) _ _ _ = _
    rw [up_s]
  have hnm : ∀ h, h ≠ D.n 3 → (usD D l k v y x).nm 1 h = D.nm 1 h := fun h q => by
    show va_up D.nm 1 (va_up (D.nm 1) (D.n 3) l) 1 h = _
    rw [up_s, up_n q]
  have hns : (usD D l k v y x).nm 1 (D.n 3) = l := by
    show va_up D.nm 1 (va_up (D.nm 1) (D.n 3) l) 1 (D.n 3) = _
    rw [up_s, up_s]
  have E : ∀ x, 284 ≤ x → (x < 291 ∨ 295 < x) → gI m' x = gI m x := fun x h a => e x (by omega) (by omega) (by omega) (by omega) (by omega) (by omega) (by omega)
  obtain ⟨⟨u0, u1, u2, u3, u4⟩, ⟨i0, i1, i2⟩, uh, uu, ub, un⟩ := U
  refine ⟨⟨⟨?_, ?_, ?_, ?_, ?_⟩, ⟨?_, ?_, ?_⟩, fun h hh => ?_, fun u hu => ?_, fun g hg => ?_, ?_⟩, fun hx0 ⟨c1, c2, c3⟩ => ⟨fun c hc a1 a2 => ?_, fun u hu => ?_, fun q hq => ?_, fun h hh => ?_, fun u hu => ?_⟩⟩
  · rw [E 284 (by decide) (by decide)]; exact u0
  · rw [E 285 (by decide) (by decide)]; exact u1
  · rw [E 288 (by decide) (by decide)]; exact u2
  · rw [a, upd_same]; rfl
  · rw [E 296 (by decide) (by decide)]; exact u4
  · rw [E 300 (by decide) (by decide), hi _ (by omega) (by omega) (by omega) (by omega)]; exact i0
  · rw [E 301 (by decide) (by decide), hi _ (by omega) (by omega) (by omega) (by omega)]; exact i1
  · rw [E 302 (by decide) (by decide), hi _ (by omega) (by omega) (by omega) (by omega)]; exact i2
  · have hh : h < D.n 2 := hh
    rw [E 289 (by decide) (by decide), E 290 (by decide) (by decide), hi _ (by omega) (by omega) (by omega) (by omega), hi _ (by omega) (by omega) (by omega) (by omega)]; exact uh h hh
  · have hu : u < D.n 3 + 1 := hu
    rw [r3, r4, r5]
    rcases lt_dec hu with rfl | hu
    · rw [upd_same, upd_same, upd_same, n1, n2, n3]; exact ⟨rfl, rfl, rfl⟩
    · rw [up_k hu, up_k hu, up_k hu, hi _ (by omega) (by omega) (by omega) (by omega), hi _ (by omega) (by omega) (by omega) (by omega), hi _ (by omega) (by omega) (by omega) (by omega)]; exact uu u hu
  · rw [E 297 (by decide) (by decide), E 298 (by decide) (by decide), E 299 (by decide) (by decide)]; exact ub g hg
  · rw [nn]; show _ = nI (D.n 2 + (D.n 3 + 1)); congr 1
  · rw [E 286 (by decide) (by decide), hi _ (by omega) (by omega) (by omega) (by omega)]; exact c1 c hc a1 a2
  · have hu : u < D.n 3 + 1 := hu
    rw [r2]
    rcases lt_dec hu with rfl | hu
    · rw [upd_same, n0]; exact hx0
    · rw [up_k hu, hi _ (by omega) (by omega) (by omega) (by omega)]; exact c2 u hu
  · have hq : q < D.n 2 + (D.n 3 + 1) := hq
    rw [j, b]
    by_cases w : q = D.n 2 + D.n 3
    · rw [w, updL_same, upd_same]
      exact Or.inr ⟨D.n 3, Nat.lt_succ_self _, by rw [hns], rfl⟩
    · rw [updL_ne w, upd_ne w]
      rcases c3.1 q (by omega) with ⟨g, g1, g2, g3⟩ | ⟨g, g1, g2, g3⟩
      · exact Or.inl ⟨g, g1, g2, g3⟩
      · exact Or.inr ⟨g, by show g < D.n 3 + 1; omega, by rw [hnm g (by omega)]; exact g2, g3⟩
  · have hh : h < D.n 2 := hh
    rw [j, b]
    obtain ⟨q, q1, q2, q3⟩ := c3.2.1 h hh
    exact ⟨q, by show q < D.n 2 + (D.n 3 + 1); omega, by rw [updL_ne (by omega)]; exact q2, by rw [upd_ne (by omega)]; exact q3⟩
  · have hu : u < D.n 3 + 1 := hu
    rw [j]
    rcases lt_dec hu with rfl | hu
    · exact ⟨D.n 2 + D.n 3, by show D.n 2 + D.n 3 < D.n 2 + (D.n 3 + 1); omega, by rw [updL_same, hns]⟩
    · obtain ⟨q, q1, q2⟩ := c3.2.2 u hu
      exact ⟨q, by show q < D.n 2 + (D.n 3 + 1); omega, by rw [updL_ne (by omega), hnm u (by omega)]; exact q2⟩
theorem Rd.ba (U : RdU m sd D) (e : ∀ x, x ≠ 274 → x ≠ 296 → x ≠ 297 → x ≠ 298 → x ≠ 299 → gI m' x = gI m x) (a : gI m' 296 = upd (gI m 296) sd (nI (D.n 4 + 1))) (r7 : gI m' 297 = upd (gI m 297) (12 * sd + D.n 4) (nI x)) (r8 : gI m' 298 = upd (gI m 298) (12 * sd + D.n 4) (nI y)) (r9 : gI m' 299 = upd (gI m 299) (12 * sd + D.n 4) (nI f)) (nn : gI m' 274 20 = gI m 274 20) (j : gJ m' 282 = gJ m 282) : RdU m' sd (bkD D x y f) ∧ (RdC m sd D → RdC m' sd (bkD D x y f)) := by
  have hb : ∀ i, i < D.n 4 → (bkD D x y f).bk i = D.bk i := fun i hi => up_n (by omega)
  have hb2 : (bkD D x y f).bk (D.n 4) = fun q => if q = 0 then x else if q = 1 then y else f := up_s
  have E : ∀ x, 283 ≤ x → (x < 296 ∨ 299 < x) → gI m' x = gI m x := fun x h a => e x (by omega) (by omega) (by omega) (by omega) (by omega)
  obtain ⟨⟨u0, u1, u2, u3, u4⟩, ⟨i0, i1, i2⟩, uh, uu, ub, un⟩ := U
  refine ⟨⟨⟨?_, ?_, ?_, ?_, ?_⟩, ⟨?_, ?_, ?_⟩, ?_, ?_, fun g hg => ?_, ?_⟩, fun ⟨c1, c2, c3⟩ => ⟨?_, ?_, ?_⟩⟩
  · rw [E 284 (by decide) (by decide)]; exact u0
  · rw [E 285 (by decide) (by decide)]; exact u1
  · rw [E 288 (by decide) (by decide)]; exact u2
  · rw [E 291 (by decide) (by decide)]; exact u3
  · rw [a, upd_same]; rfl
  · rw [E 300 (by decide) (by decide)]; exact i0
  · rw [E 301 (by decide) (by decide)]; exact i1
  · rw [E 302 (by decide) (by decide)]; exact i2
  · rw [E 289 (by decide) (by decide), E 290 (by decide) (by decide)]; exact uh
  · rw [E 293 (by decide) (by decide), E 294 (by decide) (by decide), E 295 (by decide) (by decide)]; exact uu
  · have hg : g < D.n 4 + 1 := hg
    rw [r7, r8, r9]
    rcases lt_dec hg with rfl | hg
    · rw [upd_same, upd_same, upd_same, hb2]; exact ⟨rfl, rfl, rfl⟩
    · rw [up_k hg, up_k hg, up_k hg, hb g hg]; exact ub g hg
  · rw [nn]; exact un
  · rw [E 286 (by decide) (by decide)]; exact c1
  · rw [E 292 (by decide) (by decide)]; exact c2
  · unfold NmM
    rw [E 283 (by decide) (by decide), j]; exact c3
theorem Rd.int {q : Nat} (U : RdU m sd D) (h23 : D.n 2 ≤ 4 ∧ D.n 3 ≤ 6) (hq : q < 3) (e : ∀ x, x ≠ 274 → x ≠ 300 + q → gI m' x = gI m x) (a : gI m' (300 + q) = upd (gI m (300 + q)) sd (nI v)) (nn : gI m' 274 20 = gI m 274 20) (j : gJ m' 282 = gJ m 282) : RdU m' sd (inD D q v) ∧ (RdC m sd D → RdC m' sd (inD D q v)) := by
  have hi : ∀ k, k ≠ q → (inD D q v).i k = D.i k := fun k h => up_n h
  have hs : (inD D q v).i q = nI v := by show va_up D.i q (nI v) q = _; rw [up_s]
  have E : ∀ x, 283 ≤ x → x < 300 → gI m' x = gI m x := fun x h a => e x (by omega) (by omega)
  obtain ⟨⟨u0, u1, u2, u3, u4⟩, ⟨i0, i1, i2⟩, uh, uu, ub, un⟩ := U
  refine ⟨⟨⟨?_, ?_, ?_, ?_, ?_⟩, ⟨?_, ?_, ?_⟩, fun h hh => ?_, fun u hu => ?_, fun g hg => ?_, ?_⟩, fun ⟨c1, c2, c3⟩ => ⟨fun c hc a1 a2 => ?_, fun u hu => ?_, ?_⟩⟩
  · rw [E 284 (by decide) (by decide)]; exact u0
  · rw [E 285 (by decide) (by decide)]; exact u1
  · rw [E 288 (by decide) (by decide)]; exact u2
  · rw [E 291 (by decide) (by decide)]; exact u3
  · rw [E 296 (by decide) (by decide)]; exact u4
  · by_cases w : q = 0
    · subst w; rw [a, upd_same, hs]
    · rw [e 300 (by decide) (by omega), hi 0 (by omega)]; exact i0
  · by_cases w : q = 1
    · subst w; rw [a, upd_same, hs]
    · rw [e 301 (by decide) (by omega), hi 1 (by omega)]; exact i1
  · by_cases w : q = 2
    · subst w; rw [a, upd_same, hs]
    · rw [e 302 (by decide) (by omega), hi 2 (by omega)]; exact i2
  · rw [E 289 (by decide) (by decide), E 290 (by decide) (by decide), hi _ (by omega), hi _ (by omega)]; exact uh h hh
  · rw [E 293 (by decide) (by decide), E 294 (by decide) (by decide), E 295 (by decide) (by decide), hi _ (by omega), hi _ (by omega), hi _ (by omega)]; exact uu u hu
  · rw [E 297 (by decide) (by decide), E 298 (by decide) (by decide), E 299 (by decide) (by decide)]; exact ub g hg
  · rw [nn]; exact un
  · rw [E 286 (by decide) (by decide), hi _ (by omega)]; exact c1 c hc a1 a2
  · rw [E 292 (by decide) (by decide), hi _ (by omega)]; exact c2 u hu
  · unfold NmM
    rw [E 283 (by decide) (by decide), j]; exact c3
theorem Rd.ro (U : RdU m sd D) (h23 : D.n 2 ≤ 4 ∧ D.n 3 ≤ 6) (h1 : D.n 1 < 5) (hl8 : l.length ≤ 8) (e : ∀ x, x ≠ 274 → x ≠ 284 → x ≠ 285 → x ≠ 286 → gI m' x = gI m x) (a : gI m' 285 = upd (gI m 285) sd (nI (D.n 1 + 1))) (w : gI m' 284 sd = nI (rwW D l)) (r : ∀ j, gI m' 286 j = if 40 * sd + 8 * D.n 1 ≤ j ∧ j < 40 * sd + 8 * D.n 1 + l.length then rwC (l.getD (j - (40 * sd + 8 * D.n 1)) 0) else gI m 286 j) (nn : gI m' 274 20 = gI m 274 20) (j : gJ m' 282 = gJ m 282) : RdU m' sd (rwD D l) ∧ (rwO D l → (D.n 0 = 0 ↔ D.n 1 = 0) → RdC m sd D → RdC m' sd (rwD D l)) := by
  have hi : ∀ k, k < 100 → (rwD D l).i k = D.i k := fun k h => if_neg (by omega)
  have E : ∀ x, 287 ≤ x ∨ x = 283 → gI m' x = gI m x := fun x h => e x (by omega) (by omega) (by omega) (by omega)
  obtain ⟨⟨u0, u1, u2, u3, u4⟩, ⟨i0, i1, i2⟩, uh, uu, ub, un⟩ := U
  refine ⟨⟨⟨?_, ?_, ?_, ?_, ?_⟩, ⟨?_, ?_, ?_⟩, fun h hh => ?_, fun u hu => ?_, fun g hg => ?_, ?_⟩, fun ho hz ⟨c1, c2, c3⟩ => ⟨fun c hc a1 a2 => ?_, fun u hu => ?_, ?_⟩⟩
  · exact w
  · rw [a, upd_same]; rfl
  · rw [E 288 (by decide)]; exact u2
  · rw [E 291 (by decide)]; exact u3
  · rw [E 296 (by decide)]; exact u4
  · rw [E 300 (by decide), hi _ (by decide)]; exact i0
  · rw [E 301 (by decide), hi _ (by decide)]; exact i1
  · rw [E 302 (by decide), hi _ (by decide)]; exact i2
  · have hh : h < D.n 2 := hh
    rw [E 289 (by decide), E 290 (by decide), hi _ (by omega), hi _ (by omega)]; exact uh h hh
  · have hu : u < D.n 3 := hu
    rw [E 293 (by decide), E 294 (by decide), E 295 (by decide), hi _ (by omega), hi _ (by omega), hi _ (by omega)]; exact uu u hu
  · rw [E 297 (by decide), E 298 (by decide), E 299 (by decide)]; exact ub g hg
  · rw [nn]; exact un
  · have a1 : c % 8 < rwW D l := a1
    have a2 : c / 8 < D.n 1 + 1 := a2
    rw [r]
    by_cases q : c / 8 = D.n 1
    · have e1 : (rwD D l).i (100 + c) = rwC (l.getD (100 + c - (100 + 8 * D.n 1)) 0) := if_pos (by have := ho.1; omega)
      rw [if_pos (by have := ho.1; omega), e1]
      congr 2
      omega
    · have e1 : (rwD D l).i (100 + c) = D.i (100 + c) := if_neg (by omega)
      rw [if_neg (by omega), e1]
      refine c1 c hc ?_ (by omega)
      unfold rwW at a1
      rw [if_neg (by omega)] at a1
      exact a1
  · have hu : u < D.n 3 := hu
    rw [E 292 (by decide), hi _ (by omega)]; exact c2 u hu
  · unfold NmM
    rw [E 283 (by decide), j]; exact c3
end RDT
