/-! ===== Int64 as a set of bits: test, set, clear ===== -/
theorem ts_nf {x : Bool} (h : ¬ x = false) : x = true := by cases x <;> first | rfl | exact absurd rfl h
theorem ts_nt {x : Bool} (h : ¬ x = true) : x = false := by cases x <;> first | rfl | exact absurd rfl h
theorem ts_bit {w : Int64} {s : UInt64} {j : Nat} (hj : j < 64) (hs : s.toNat = j) : ((w.toUInt64 >>> s).toInt64 &&& 1) = 0 ↔ w.toBitVec.getLsbD j = false := by
  have e : (w.toUInt64 >>> s).toInt64.toBitVec = w.toBitVec >>> j := by
    apply BitVec.eq_of_toNat_eq
    show (w.toUInt64 >>> s).toNat = _
    rw [UInt64.toNat_shiftRight, hs, Nat.mod_eq_of_lt hj, BitVec.toNat_ushiftRight]
    rfl
  rw [← Int64.toBitVec_inj, Int64.toBitVec_and, e]
  show w.toBitVec >>> j &&& 1#64 = 0#64 ↔ _
  constructor
  · intro h
    have t := congrArg (fun x => x.getLsbD 0) h
    simpa using t
  · intro h
    apply BitVec.eq_of_getLsbD_eq
    intro i hi
    cases i with
    | zero => simp [h]
    | succ i => simp
/-! ===== lN n to 2^64: shifts, and, or, masks, one bit ===== -/
theorem wb_tb (n : Nat) : (lN n).toBitVec = BitVec.ofNat 64 n := rfl
theorem wb_inj {a b : Int64} (h : a.toBitVec = b.toBitVec) : a = b := Int64.toBitVec_inj.mp h
theorem wb_tn {n : Nat} (h : n < 2 ^ 64) : (lN n).toBitVec.toNat = n := by rw [wb_tb, BitVec.toNat_ofNat, Nat.mod_eq_of_lt h]
theorem wb_of (x : Int64) : ∃ n, n < 2 ^ 64 ∧ x = lN n := ⟨x.toBitVec.toNat, x.toBitVec.isLt, wb_inj (by rw [wb_tb]; simp)⟩
theorem wb_of32 (x : Int32) : ∃ n, n < 2 ^ 32 ∧ x = nI n := ⟨x.toBitVec.toNat, x.toBitVec.isLt, Int32.toBitVec_inj.mp (by show _ = BitVec.ofNat 32 _; simp)⟩
theorem wb_c : ∀ k, k < 64 → ((nI k).toInt64 &&& 63) = lN k := by decide +kernel
theorem wb_cu : ∀ k, k < 64 → ((nI k).toInt64.toUInt64 &&& Int64.toUInt64 63) = UInt64.ofNat k := by decide +kernel
theorem wb_sm : ∀ k, k < 64 → (BitVec.ofNat 64 k).smod 64 = BitVec.ofNat 64 k := by decide +kernel
theorem wb_pw {a b : Nat} (h : a ≤ b) : 2 ^ b = 2 ^ a * 2 ^ (b - a) := by rw [← Nat.pow_add]; congr 1; omega
theorem wb_lt2 {a b : Nat} (h : a < b) : 2 ^ a < 2 ^ b := Nat.pow_lt_pow_right (by decide) h
theorem wb_mod (n : Nat) : lN n = lN (n % 2 ^ 64) := wb_inj (by rw [wb_tb, wb_tb]; apply BitVec.eq_of_toNat_eq; rw [BitVec.toNat_ofNat, BitVec.toNat_ofNat, Nat.mod_mod])
theorem wb_shr {n k : Nat} (hn : n < 2 ^ 64) (hk : k < 64) : ((lN n).toUInt64 >>> ((nI k).toInt64.toUInt64 &&& Int64.toUInt64 63)).toInt64 = lN (n / 2 ^ k) := by
  rw [wb_cu k hk]
  apply wb_inj
  apply BitVec.eq_of_toNat_eq
  show ((lN n).toUInt64 >>> UInt64.ofNat k).toNat = (BitVec.ofNat 64 _).toNat
  have h1 : (UInt64.ofNat k).toNat = k := by
    show (BitVec.ofNat 64 k).toNat = k
    rw [BitVec.toNat_ofNat, Nat.mod_eq_of_lt (by omega)]
  have h2 : (lN n).toUInt64.toNat = n := wb_tn hn
  rw [UInt64.toNat_shiftRight, h1, h2, Nat.mod_eq_of_lt hk, Nat.shiftRight_eq_div_pow, BitVec.toNat_ofNat, Nat.mod_eq_of_lt (Nat.lt_of_le_of_lt (Nat.div_le_self _ _) hn)]
theorem wb_shl (n : Nat) {k : Nat} (hk : k < 64) : lN n <<< ((nI k).toInt64 &&& 63) = lN (n * 2 ^ k) := by
  rw [wb_c k hk]
  apply wb_inj
  rw [Int64.toBitVec_shiftLeft, wb_tb, wb_tb, wb_tb, wb_sm k hk]
  apply BitVec.eq_of_toNat_eq
  rw [BitVec.shiftLeft_eq', BitVec.toNat_shiftLeft, BitVec.toNat_ofNat, BitVec.toNat_ofNat, BitVec.toNat_ofNat, Nat.mod_eq_of_lt (show k < 2 ^ 64 by omega), Nat.shiftLeft_eq, Nat.mul_mod, Nat.mod_mod, ← Nat.mul_mod]
theorem wb_and {a b : Nat} (ha : a < 2 ^ 64) (hb : b < 2 ^ 64) : lN a &&& lN b = lN (a &&& b) := by
  apply wb_inj
  rw [Int64.toBitVec_and, wb_tb, wb_tb, wb_tb]
  apply BitVec.eq_of_toNat_eq
  rw [BitVec.toNat_and, BitVec.toNat_ofNat, BitVec.toNat_ofNat, BitVec.toNat_ofNat, Nat.mod_eq_of_lt ha, Nat.mod_eq_of_lt hb, Nat.mod_eq_of_lt (Nat.and_lt_two_pow _ hb)]
theorem wb_or {a b : Nat} (ha : a < 2 ^ 64) (hb : b < 2 ^ 64) : lN a ||| lN b = lN (a ||| b) := by
  apply wb_inj
  rw [Int64.toBitVec_or, wb_tb, wb_tb, wb_tb]
  apply BitVec.eq_of_toNat_eq
  rw [BitVec.toNat_or, BitVec.toNat_ofNat, BitVec.toNat_ofNat, BitVec.toNat_ofNat, Nat.mod_eq_of_lt ha, Nat.mod_eq_of_lt hb, Nat.mod_eq_of_lt (Nat.or_lt_two_pow ha hb)]
theorem wb_mask {n k : Nat} (hn : n < 2 ^ 64) (hk : k < 64) : lN n &&& lN (2 ^ k - 1) = lN (n % 2 ^ k) := by
  rw [wb_and hn (by have := wb_lt2 hk; omega), Nat.and_two_pow_sub_one_eq_mod]
theorem wb_a1 {n : Nat} (hn : n < 2 ^ 64) : lN n &&& 1 = lN (n % 2) := wb_mask (k := 1) hn (by decide)
theorem wb_bit {n k : Nat} (hn : n < 2 ^ 64) (hk : k < 64) : ((lN n).toUInt64 >>> ((nI k).toInt64.toUInt64 &&& Int64.toUInt64 63)).toInt64 &&& 1 = lN (n / 2 ^ k % 2) := by
  rw [wb_shr hn hk, wb_a1 (Nat.lt_of_le_of_lt (Nat.div_le_self _ _) hn)]
theorem wb_xor {q k : Nat} (hk : k < 63) (h : 2 ^ k ≤ q) (h2 : q < 2 ^ (k + 1)) : lN q ^^^ lN (2 ^ k) = lN (q - 2 ^ k) := by
  obtain ⟨r, rfl⟩ : ∃ r, q = 2 ^ k + r := ⟨q - 2 ^ k, by omega⟩
  have hr : r < 2 ^ k := by rw [Nat.pow_succ] at h2; omega
  have hx : (2 ^ k + r) ^^^ 2 ^ k = r := by
    apply Nat.eq_of_testBit_eq
    intro i
    rw [Nat.testBit_xor, Nat.testBit_two_pow]
    rcases Nat.lt_trichotomy i k with h | h | h
    · rw [Nat.testBit_two_pow_add_gt h]
      simp [show ¬ k = i by omega]
    · subst h
      rw [Nat.testBit_two_pow_add_eq]
      simp
    · have a1 : 2 ^ (k + 1) ≤ 2 ^ i := Nat.pow_le_pow_right (by decide) h
      rw [Nat.testBit_lt_two_pow (show 2 ^ k + r < 2 ^ i by omega), Nat.testBit_lt_two_pow (show r < 2 ^ i by omega)]
      simp [show ¬ k = i by omega]
  have b1 := wb_lt2 (show k + 1 < 64 by omega)
  have b2 := wb_lt2 (show k < 64 by omega)
  apply wb_inj
  rw [Int64.toBitVec_xor, wb_tb, wb_tb, wb_tb]
  apply BitVec.eq_of_toNat_eq
  rw [BitVec.toNat_xor, BitVec.toNat_ofNat, BitVec.toNat_ofNat, BitVec.toNat_ofNat, Nat.mod_eq_of_lt (by omega : 2 ^ k + r < 2 ^ 64), Nat.mod_eq_of_lt b2, hx, Nat.add_sub_cancel_left, Nat.mod_eq_of_lt (by omega)]
/-! sets of cells as bits of a long -/
def bt (x : Int64) (c : Nat) : Bool := x.toBitVec.getLsbD c
theorem bt_hi {x : Int64} {c : Nat} (h : 64 ≤ c) : bt x c = false := BitVec.getLsbD_of_ge _ _ h
theorem bt_and (x y : Int64) (c : Nat) : bt (x &&& y) c = (bt x c && bt y c) := by
  unfold bt; rw [Int64.toBitVec_and, BitVec.getLsbD_and]
theorem bt_or (x y : Int64) (c : Nat) : bt (x ||| y) c = (bt x c || bt y c) := by
  unfold bt; rw [Int64.toBitVec_or, BitVec.getLsbD_or]
theorem bt_xor (x y : Int64) (c : Nat) : bt (x ^^^ y) c = (bt x c ^^ bt y c) := by
  unfold bt; rw [Int64.toBitVec_xor, BitVec.getLsbD_xor]
theorem bt_ext {x y : Int64} (h : ∀ c, c < 64 → bt x c = bt y c) : x = y := by
  apply wb_inj
  apply BitVec.eq_of_getLsbD_eq
  intro i hi
  exact h i hi
theorem bt_0 (c : Nat) : bt 0 c = false := by
  unfold bt; rw [show (0 : Int64).toBitVec = 0#64 from rfl]; exact BitVec.getLsbD_zero
theorem bt_m1 {c : Nat} (h : c < 64) : bt (-1) c = true := by
  have : ∀ c : Fin 64, bt (-1) c.val = true := by decide +kernel
  exact this ⟨c, h⟩
theorem bt_not {x : Int64} {c : Nat} (h : c < 64) : bt (x ^^^ (-1)) c = !bt x c := by
  rw [bt_xor, bt_m1 h]; simp
theorem bt_shl {x : Int64} {k c : Nat} (hk : k < 64) (hc : c < 64) : bt (x <<< ((nI k).toInt64 &&& 63)) c = (decide (k ≤ c) && bt x (c - k)) := by
  unfold bt
  rw [wb_c k hk, Int64.toBitVec_shiftLeft, wb_tb, wb_sm k hk, BitVec.shiftLeft_eq', BitVec.getLsbD_shiftLeft, BitVec.toNat_ofNat, Nat.mod_eq_of_lt (by omega)]
  by_cases q : c < k
  · simp [q, hc]
    intro h; omega
  · simp [q, hc, Nat.not_lt.mp q]
theorem bt_shr {x : Int64} {k c : Nat} (hk : k < 64) : bt ((x.toUInt64 >>> ((nI k).toInt64.toUInt64 &&& Int64.toUInt64 63)).toInt64) c = bt x (c + k) := by
  unfold bt
  rw [wb_cu k hk]
  show ((x.toUInt64 >>> UInt64.ofNat k).toBitVec).getLsbD c = _
  rw [UInt64.toBitVec_shiftRight]
  have e : ((UInt64.ofNat k).toBitVec % 64).toNat = k := by
    rw [BitVec.toNat_umod]
    show (BitVec.ofNat 64 k).toNat % _ = k
    rw [BitVec.toNat_ofNat, Nat.mod_eq_of_lt (show k < 2 ^ 64 by omega)]
    exact Nat.mod_eq_of_lt hk
  rw [BitVec.ushiftRight_eq', e, BitVec.getLsbD_ushiftRight, Nat.add_comm]
  rfl
theorem bt_one {k c : Nat} (hk : k < 64) : bt ((1 : Int64) <<< ((nI k).toInt64 &&& 63)) c = decide (c = k) := by
  by_cases hc : c < 64
  · rw [bt_shl hk hc]
    have e : ∀ j, bt 1 j = decide (j = 0) := fun j => by
      by_cases q : j < 64
      · have : ∀ j : Fin 64, bt 1 j.val = decide (j.val = 0) := by decide +kernel
        exact this ⟨j, q⟩
      · rw [bt_hi (by omega)]; exact (decide_eq_false (by omega)).symm
    rw [e]
    by_cases q : c = k
    · subst q; simp
    · by_cases z : k ≤ c
      · rw [decide_eq_false q, decide_eq_false (show ¬ c - k = 0 by omega)]; simp
      · rw [decide_eq_false z, decide_eq_false q]; rfl
  · rw [bt_hi (by omega)]; exact (decide_eq_false (by omega)).symm
theorem cmp_0 {x y : Int64} : lg_cmp x y = 0 ↔ x = y := by
  unfold lg_cmp
  by_cases h : x > y
  · rw [if_pos h]
    constructor
    · intro q; exact absurd q (by decide)
    · intro q; subst q; exact absurd h Int64.lt_irrefl
  · rw [if_neg h]
    by_cases q : x = y
    · rw [if_pos q]; simp [q]
    · rw [if_neg q]
      constructor
      · intro z; exact absurd z (by decide)
      · intro z; exact absurd z q
/-- the bit that is looked at -/
theorem bt_look {x : Int64} {k : Nat} (hk : k < 64) : lg_cmp ((x.toUInt64 >>> ((nI k).toInt64.toUInt64 &&& Int64.toUInt64 63)).toInt64 &&& 1) 0 = 0 ↔ bt x k = false := by
  rw [cmp_0]
  refine ts_bit (w := x) (s := (nI k).toInt64.toUInt64 &&& Int64.toUInt64 63) (j := k) hk ?_
  rw [wb_cu k hk]
  show (BitVec.ofNat 64 k).toNat = k
  rw [BitVec.toNat_ofNat, Nat.mod_eq_of_lt (by omega)]
def BS (x : Int64) (p : Nat → Prop) : Prop := ∀ c, bt x c = true ↔ p c
theorem BS.at {x : Int64} {p : Nat → Prop} (h : BS x p) {c : Nat} : bt x c = false ↔ ¬ p c := by
  rw [← h c]; cases bt x c <;> simp
theorem BS.c {x : Int64} {p p' : Nat → Prop} (h : BS x p) (e : ∀ c, p c ↔ p' c) : BS x p' := fun c => (h c).trans (e c)
theorem BS.eq {x y : Int64} {p : Nat → Prop} (h : BS x p) (k : BS y p) : x = y := bt_ext (fun c _ => by
  have h1 := h c
  have h2 := k c
  cases q : bt x c <;> cases z : bt y c <;> simp_all)
theorem BS.and {x y : Int64} {p q : Nat → Prop} (h : BS x p) (k : BS y q) : BS (x &&& y) (fun c => p c ∧ q c) := fun c => by
  rw [bt_and, Bool.and_eq_true, h c, k c]
theorem BS.or {x y : Int64} {p q : Nat → Prop} (h : BS x p) (k : BS y q) : BS (x ||| y) (fun c => p c ∨ q c) := fun c => by
  rw [bt_or, Bool.or_eq_true, h c, k c]
theorem BS.one {k : Nat} (hk : k < 64) : BS ((1 : Int64) <<< ((nI k).toInt64 &&& 63)) (fun c => c = k) := fun c => by
  rw [bt_one hk]; exact decide_eq_true_iff
theorem BS.z : BS 0 (fun _ => False) := fun c => by rw [bt_0]; simp
theorem BS.n0 {x : Int64} {p : Nat → Prop} (h : BS x p) : x = 0 ↔ ∀ c, ¬ p c := by
  constructor
  · intro e c hc
    rw [e] at h
    exact (BS.z c).mp ((h c).mpr hc)
  · intro e
    exact h.eq (BS.z.c (fun c => ⟨fun q => q.elim, fun q => e c q⟩))
theorem BS.andn {x y : Int64} {p q : Nat → Prop} (h : BS x p) (k : BS y q) (hp : ∀ c, p c → c < 64) : BS (x &&& (y ^^^ (-1))) (fun c => p c ∧ ¬ q c) := fun c => by
  rw [bt_and, Bool.and_eq_true, h c]
  constructor
  · rintro ⟨h1, h2⟩
    rw [bt_not (hp c h1)] at h2
    refine ⟨h1, fun z => ?_⟩
    rw [(k c).mpr z] at h2
    exact absurd h2 (by decide)
  · rintro ⟨h1, h2⟩
    refine ⟨h1, ?_⟩
    rw [bt_not (hp c h1), k.at.mpr h2]; rfl
/-- next to one -/
def nxt (p : Nat → Prop) (c : Nat) : Prop := (c % 8 ≠ 0 ∧ p (c - 1)) ∨ (c % 8 ≠ 7 ∧ p (c + 1)) ∨ (8 ≤ c ∧ p (c - 8)) ∨ p (c + 8)
/-- a cell or one next to it -/
def nbr (p : Nat → Prop) (c : Nat) : Prop := p c ∨ nxt p c
theorem nbr_c {p p' : Nat → Prop} (h : ∀ c, p c ↔ p' c) {c : Nat} : nbr p c ↔ nbr p' c := by
  unfold nbr nxt; rw [h c, h (c - 1), h (c + 1), h (c - 8), h (c + 8)]
theorem nbr_m {p p' : Nat → Prop} (h : ∀ c, p c → p' c) {c : Nat} (k : nbr p c) : nbr p' c := by
  rcases k with k | ⟨a, k⟩ | ⟨a, k⟩ | ⟨a, k⟩ | k
  · exact Or.inl (h _ k)
  · exact Or.inr (Or.inl ⟨a, h _ k⟩)
  · exact Or.inr (Or.inr (Or.inl ⟨a, h _ k⟩))
  · exact Or.inr (Or.inr (Or.inr (Or.inl ⟨a, h _ k⟩)))
  · exact Or.inr (Or.inr (Or.inr (Or.inr (h _ k))))
def wnS (x : Int64) : Int64 := x ||| (((x &&& (-551911719041)) <<< ((nI 1).toInt64 &&& 63)) ||| (((x &&& (-4311810306)).toUInt64 >>> ((nI 1).toInt64.toUInt64 &&& Int64.toUInt64 63)).toInt64)) ||| (x <<< ((nI 8).toInt64 &&& 63)) ||| ((x.toUInt64 >>> ((nI 8).toInt64.toUInt64 &&& Int64.toUInt64 63)).toInt64)
theorem bt_R {c : Nat} (h : c < 40) : bt (-551911719041) c = decide (c % 8 ≠ 7) := by
  have : ∀ c : Fin 40, bt (-551911719041) c.val = decide (c.val % 8 ≠ 7) := by decide +kernel
  exact this ⟨c, h⟩
theorem bt_L {c : Nat} (h : c < 40) : bt (-4311810306) c = decide (c % 8 ≠ 0) := by
  have : ∀ c : Fin 40, bt (-4311810306) c.val = decide (c.val % 8 ≠ 0) := by decide +kernel
  exact this ⟨c, h⟩
theorem BS.wn {x y : Int64} {p q : Nat → Prop} (h : BS x p) (k : BS y q) (hp : ∀ c, p c → c < 40) (hq : ∀ c, q c → c < 40) : BS (wnS x &&& y) (fun c => nbr p c ∧ q c) := fun c => by
  rw [bt_and, Bool.and_eq_true, k c]
  refine and_congr_left (fun hc => ?_)
  have c40 := hq c hc
  unfold wnS nbr nxt
  rw [bt_or, bt_or, bt_or, bt_or, bt_shl (by decide) (by omega), bt_shr (by decide), bt_shl (by decide) (by omega), bt_shr (by decide), bt_and, bt_and]
  simp only [Bool.or_eq_true, Bool.and_eq_true, decide_eq_true_eq]
  rw [h c, h (c - 1), h (c + 1), h (c - 8), h (c + 8), bt_R (show c - 1 < 40 by omega)]
  have e1 : (1 ≤ c ∧ p (c - 1) ∧ decide ((c - 1) % 8 ≠ 7) = true) ↔ (c % 8 ≠ 0 ∧ p (c - 1)) := by
    rw [decide_eq_true_iff]
    constructor
    · rintro ⟨a, b, d⟩; exact ⟨by omega, b⟩
    · rintro ⟨a, b⟩; exact ⟨by omega, b, by omega⟩
  have e2 : (p (c + 1) ∧ bt (-4311810306) (c + 1) = true) ↔ (c % 8 ≠ 7 ∧ p (c + 1)) := by
    constructor
    · rintro ⟨a, b⟩
      rw [bt_L (hp _ a), decide_eq_true_iff] at b
      exact ⟨by omega, a⟩
    · rintro ⟨a, b⟩
      exact ⟨b, by rw [bt_L (hp _ b), decide_eq_true_iff]; omega⟩
  rw [e1, e2]
  constructor
  · rintro (((a | a | a) | a) | a)
    · exact Or.inl a
    · exact Or.inr (Or.inl a)
    · exact Or.inr (Or.inr (Or.inl a))
    · exact Or.inr (Or.inr (Or.inr (Or.inl a)))
    · exact Or.inr (Or.inr (Or.inr (Or.inr a)))
  · rintro (a | a | a | a | a)
    · exact Or.inl (Or.inl (Or.inl a))
    · exact Or.inl (Or.inl (Or.inr (Or.inl a)))
    · exact Or.inl (Or.inl (Or.inr (Or.inr a)))
    · exact Or.inl (Or.inr a)
    · exact Or.inr a
theorem BS.at40 {f w : Nat → Int32} {th : Int32} : ∀ n, n ≤ 40 → BS (atS f w th n) (fun c => c < n ∧ w c ≠ -1 ∧ ¬ f c < th)
  | 0, _ => fun c => by
    rw [show atS f w th 0 = 0 from rfl, bt_0]
    constructor
    · intro q; exact absurd q (by decide)
    · intro q; exact absurd q.1 (by omega)
  | n + 1, q => by
    have ih := BS.at40 (f := f) (w := w) (th := th) n (by omega)
    unfold atS
    by_cases h1 : w n = -1
    · rw [if_pos h1]
      refine ih.c (fun c => ⟨fun z => ⟨by omega, z.2⟩, fun z => ⟨?_, z.2⟩⟩)
      have : c ≠ n := fun e => z.2.1 (by rw [e]; exact h1)
      omega
    · rw [if_neg h1]
      by_cases h2 : f n < th
      · rw [if_pos h2]
        refine ih.c (fun c => ⟨fun z => ⟨by omega, z.2⟩, fun z => ⟨?_, z.2⟩⟩)
        have : c ≠ n := fun e => z.2.2 (by rw [e]; exact h2)
        omega
      · rw [if_neg h2]
        refine (ih.or (BS.one (k := n) (by omega))).c (fun c => ⟨?_, fun z => ?_⟩)
        · rintro (z | z)
          · exact ⟨by omega, z.2⟩
          · exact ⟨by omega, by rw [z]; exact h1, by rw [z]; exact h2⟩
        · by_cases e : c = n
          · exact Or.inr e
          · exact Or.inl ⟨by omega, z.2⟩
