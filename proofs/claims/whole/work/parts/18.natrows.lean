section NATROWS
variable {M : MD} {Q : Option Value → Me → Prop} {pc : Nat} {L : List (Option Value)} {S : List Value} {m : Me} {cc zz : Nat}
theorem gn_eq {a b : Nat} {off : Int} {tgt : Nat} (ha : a < 2 ^ 31) (hb : b < 2 ^ 31) (d : decode M.b pc = .ok (.if_icmp .eq off, 3)) (ht : (pc : Int) + off = (tgt : Int)) (kt : a = b → Go M Q tgt L S m cc zz) (kf : a ≠ b → Go M Q (pc + 3) L S m cc zz) : Go M Q pc L (.int (nI b) :: .int (nI a) :: S) m cc zz :=
  go_icmp_eq d ht (fun h => kt ((nI_eq ha hb).mp h)) (fun h => kf (fun q => h ((nI_eq ha hb).mpr q)))
theorem gz_eq {a : Nat} {off : Int} {tgt : Nat} (ha : a < 2 ^ 31) (d : decode M.b pc = .ok (.ifCond .eq off, 3)) (ht : (pc : Int) + off = (tgt : Int)) (kt : a = 0 → Go M Q tgt L S m cc zz) (kf : a ≠ 0 → Go M Q (pc + 3) L S m cc zz) : Go M Q pc L (.int (nI a) :: S) m cc zz := by
  have hb : (0 : Nat) < 2 ^ 31 := by decide
  refine go_if_eq d ht (fun h => kt ?_) (fun h => kf ?_)
  all_goals (rw [← nI_0] at h)
  · exact (nI_eq ha hb).mp h
  · exact fun q => h (by rw [q])
theorem gn_ne {a b : Nat} {off : Int} {tgt : Nat} (ha : a < 2 ^ 31) (hb : b < 2 ^ 31) (d : decode M.b pc = .ok (.if_icmp .ne off, 3)) (ht : (pc : Int) + off = (tgt : Int)) (kt : a ≠ b → Go M Q tgt L S m cc zz) (kf : a = b → Go M Q (pc + 3) L S m cc zz) : Go M Q pc L (.int (nI b) :: .int (nI a) :: S) m cc zz :=
  go_icmp_ne d ht (fun h => kt (fun q => h ((nI_eq ha hb).mpr q))) (fun h => kf ((nI_eq ha hb).mp h))
theorem gz_ne {a : Nat} {off : Int} {tgt : Nat} (ha : a < 2 ^ 31) (d : decode M.b pc = .ok (.ifCond .ne off, 3)) (ht : (pc : Int) + off = (tgt : Int)) (kt : a ≠ 0 → Go M Q tgt L S m cc zz) (kf : a = 0 → Go M Q (pc + 3) L S m cc zz) : Go M Q pc L (.int (nI a) :: S) m cc zz := by
  have hb : (0 : Nat) < 2 ^ 31 := by decide
  refine go_if_ne d ht (fun h => kt ?_) (fun h => kf ?_)
  all_goals (rw [← nI_0] at h)
  · exact fun q => h (by rw [q])
  · exact (nI_eq ha hb).mp h
theorem gn_lt {a b : Nat} {off : Int} {tgt : Nat} (ha : a < 2 ^ 31) (hb : b < 2 ^ 31) (d : decode M.b pc = .ok (.if_icmp .lt off, 3)) (ht : (pc : Int) + off = (tgt : Int)) (kt : a < b → Go M Q tgt L S m cc zz) (kf : b ≤ a → Go M Q (pc + 3) L S m cc zz) : Go M Q pc L (.int (nI b) :: .int (nI a) :: S) m cc zz :=
  go_icmp_lt d ht (fun h => kt ((nI_ltI ha hb).mp h)) (fun h => kf (by have q : ¬ (a < b) := fun z => h ((nI_ltI ha hb).mpr z); omega))
theorem gz_lt {a : Nat} {off : Int} {tgt : Nat} (ha : a < 2 ^ 31) (d : decode M.b pc = .ok (.ifCond .lt off, 3)) (ht : (pc : Int) + off = (tgt : Int)) (kt : a < 0 → Go M Q tgt L S m cc zz) (kf : 0 ≤ a → Go M Q (pc + 3) L S m cc zz) : Go M Q pc L (.int (nI a) :: S) m cc zz := by
  have hb : (0 : Nat) < 2 ^ 31 := by decide
  refine go_if_lt d ht (fun h => kt ?_) (fun h => kf ?_)
  all_goals (rw [← nI_0] at h)
  · exact (nI_ltI ha hb).mp h
  · have q : ¬ (a < 0) := fun z => h ((nI_ltI ha hb).mpr z)
    omega
theorem gn_ge {a b : Nat} {off : Int} {tgt : Nat} (ha : a < 2 ^ 31) (hb : b < 2 ^ 31) (d : decode M.b pc = .ok (.if_icmp .ge off, 3)) (ht : (pc : Int) + off = (tgt : Int)) (kt : b ≤ a → Go M Q tgt L S m cc zz) (kf : a < b → Go M Q (pc + 3) L S m cc zz) : Go M Q pc L (.int (nI b) :: .int (nI a) :: S) m cc zz :=
  go_icmp_ge d ht (fun h => kt ((nI_leI hb ha).mp h)) (fun h => kf (by have q : ¬ (b ≤ a) := fun z => h ((nI_leI hb ha).mpr z); omega))
theorem gz_ge {a : Nat} {off : Int} {tgt : Nat} (ha : a < 2 ^ 31) (d : decode M.b pc = .ok (.ifCond .ge off, 3)) (ht : (pc : Int) + off = (tgt : Int)) (kt : 0 ≤ a → Go M Q tgt L S m cc zz) (kf : a < 0 → Go M Q (pc + 3) L S m cc zz) : Go M Q pc L (.int (nI a) :: S) m cc zz := by
  have hb : (0 : Nat) < 2 ^ 31 := by decide
  refine go_if_ge d ht (fun h => kt ?_) (fun h => kf ?_)
  all_goals (rw [← nI_0] at h)
  · exact (nI_leI hb ha).mp h
  · have q : ¬ (0 ≤ a) := fun z => h ((nI_leI hb ha).mpr z)
    omega
theorem gn_gt {a b : Nat} {off : Int} {tgt : Nat} (ha : a < 2 ^ 31) (hb : b < 2 ^ 31) (d : decode M.b pc = .ok (.if_icmp .gt off, 3)) (ht : (pc : Int) + off = (tgt : Int)) (kt : b < a → Go M Q tgt L S m cc zz) (kf : a ≤ b → Go M Q (pc + 3) L S m cc zz) : Go M Q pc L (.int (nI b) :: .int (nI a) :: S) m cc zz :=
  go_icmp_gt d ht (fun h => kt ((nI_ltI hb ha).mp h)) (fun h => kf (by have q : ¬ (b < a) := fun z => h ((nI_ltI hb ha).mpr z); omega))
theorem gz_gt {a : Nat} {off : Int} {tgt : Nat} (ha : a < 2 ^ 31) (d : decode M.b pc = .ok (.ifCond .gt off, 3)) (ht : (pc : Int) + off = (tgt : Int)) (kt : 0 < a → Go M Q tgt L S m cc zz) (kf : a ≤ 0 → Go M Q (pc + 3) L S m cc zz) : Go M Q pc L (.int (nI a) :: S) m cc zz := by
  have hb : (0 : Nat) < 2 ^ 31 := by decide
  refine go_if_gt d ht (fun h => kt ?_) (fun h => kf ?_)
  all_goals (rw [← nI_0] at h)
  · exact (nI_ltI hb ha).mp h
  · have q : ¬ (0 < a) := fun z => h ((nI_ltI hb ha).mpr z)
    omega
theorem gn_le {a b : Nat} {off : Int} {tgt : Nat} (ha : a < 2 ^ 31) (hb : b < 2 ^ 31) (d : decode M.b pc = .ok (.if_icmp .le off, 3)) (ht : (pc : Int) + off = (tgt : Int)) (kt : a ≤ b → Go M Q tgt L S m cc zz) (kf : b < a → Go M Q (pc + 3) L S m cc zz) : Go M Q pc L (.int (nI b) :: .int (nI a) :: S) m cc zz :=
  go_icmp_le d ht (fun h => kt ((nI_leI ha hb).mp h)) (fun h => kf (by have q : ¬ (a ≤ b) := fun z => h ((nI_leI ha hb).mpr z); omega))
theorem gz_le {a : Nat} {off : Int} {tgt : Nat} (ha : a < 2 ^ 31) (d : decode M.b pc = .ok (.ifCond .le off, 3)) (ht : (pc : Int) + off = (tgt : Int)) (kt : a ≤ 0 → Go M Q tgt L S m cc zz) (kf : 0 < a → Go M Q (pc + 3) L S m cc zz) : Go M Q pc L (.int (nI a) :: S) m cc zz := by
  have hb : (0 : Nat) < 2 ^ 31 := by decide
  refine go_if_le d ht (fun h => kt ?_) (fun h => kf ?_)
  all_goals (rw [← nI_0] at h)
  · exact (nI_leI ha hb).mp h
  · have q : ¬ (a ≤ 0) := fun z => h ((nI_leI ha hb).mpr z)
    omega
theorem gn_add {a b : Nat} (d : decode M.b pc = .ok (.iadd, 1)) (k : Go M Q (pc + 1) L (.int (nI (a + b)) :: S) m cc zz) : Go M Q pc L (.int (nI b) :: .int (nI a) :: S) m cc zz := go_iadd d (by rw [nI_add]; exact k)
theorem gn_mul {a b : Nat} (d : decode M.b pc = .ok (.imul, 1)) (k : Go M Q (pc + 1) L (.int (nI (a * b)) :: S) m cc zz) : Go M Q pc L (.int (nI b) :: .int (nI a) :: S) m cc zz := go_imul d (by rw [pk_mul]; exact k)
theorem gn_sub {a b : Nat} (h : b ≤ a) (d : decode M.b pc = .ok (.isub, 1)) (k : Go M Q (pc + 1) L (.int (nI (a - b)) :: S) m cc zz) : Go M Q pc L (.int (nI b) :: .int (nI a) :: S) m cc zz := go_isub d (by rw [pk_sub h]; exact k)
theorem gn_div {a b : Nat} (ha : a < 2 ^ 31) (h0 : 0 < b) (hb : b < 2 ^ 31) (d : decode M.b pc = .ok (.idiv, 1)) (k : Go M Q (pc + 1) L (.int (nI (a / b)) :: S) m cc zz) : Go M Q pc L (.int (nI b) :: .int (nI a) :: S) m cc zz := go_idiv (nI_ne0 h0 hb) d (by rw [pk_div ha h0 hb]; exact k)
theorem gn_rem {a b : Nat} (ha : a < 2 ^ 31) (h0 : 0 < b) (hb : b < 2 ^ 31) (d : decode M.b pc = .ok (.irem, 1)) (k : Go M Q (pc + 1) L (.int (nI (a % b)) :: S) m cc zz) : Go M Q pc L (.int (nI b) :: .int (nI a) :: S) m cc zz := go_irem (nI_ne0 h0 hb) d (by rw [pk_rem ha h0 hb]; exact k)
theorem gn_inc {i a q : Nat} {n : Int} (hn : n = (q : Int)) (d : decode M.b pc = .ok (.iinc i n, 3)) (hi : i < M.ml) (hL : L[i]? = some (some (.int (nI a)))) (k : Go M Q (pc + 3) (st1 L i (.int (nI (a + q)))) S m cc zz) : Go M Q pc L S m cc zz := by
  subst hn
  refine go_iinc d hi hL ?_
  rw [show Int32.ofInt (q : Int) = nI q from rfl, nI_add]
  exact k
theorem go_c1 {v : Value} (h : Go M Q pc L (v :: S) m cc zz) : Go M Q pc L ((some v).toList ++ S) m (cc + 0) (zz + 0) := h
theorem go_c0 (h : Go M Q pc L S m cc zz) : Go M Q pc L ((none : Option Value).toList ++ S) m (cc + 0) (zz + 0) := h
theorem go_L {L' : List (Option Value)} (hL : L' = L) (h : Go M Q pc L' S m cc zz) : Go M Q pc L S m cc zz := by subst hL; exact h
theorem loop_up {P : Nat → Prop} (N : Nat) (hN : P N) (hs : ∀ i, i < N → P (i + 1) → P i) : ∀ i, i ≤ N → P i := by
  intro i hi
  obtain ⟨d, rfl⟩ : ∃ d, N = i + d := ⟨N - i, by omega⟩
  induction d generalizing i with
  | zero => exact hN
  | succ d ih =>
    refine hs i (by omega) (ih (i + 1) ?_ ?_ ?_)
    · rw [show i + 1 + d = i + (d + 1) by omega]; exact hN
    · intro j hj; exact hs j (by omega)
    · omega
end NATROWS
