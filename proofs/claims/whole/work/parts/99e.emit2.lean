theorem eTok_o {k v : Nat} {W : List Nat} {D : List (Nat × Nat)} (h : 0 < rnk k) : eTok k v (W, D) = (k :: (eOut (rnk k) W D).1, (eOut (rnk k) W D).2) := by
  have ho := rnk_o h
  unfold eTok
  rw [if_neg (show ¬ k = 24 by omega), if_neg (show ¬ (14 ≤ k ∧ k ≤ 22) by omega), if_neg (show ¬ k = 32 by omega), if_neg (show ¬ k = 33 by omega), if_pos h]
theorem eTok_u {k v : Nat} {W : List Nat} {D : List (Nat × Nat)} (h : isU k) : eTok k v (W, D) = (W, D ++ [if k = 24 then (0, v) else (1, k - 14)]) := by
  unfold eTok
  by_cases e : k = 24
  · rw [if_pos e, if_pos e]
  · rw [if_neg e, if_neg e, if_pos (show 14 ≤ k ∧ k ≤ 22 by omega)]
theorem eTok_b {v : Nat} {W : List Nat} {D : List (Nat × Nat)} : eTok 32 v (W, D) = (32 :: W, D) := rfl
theorem eTok_e {v : Nat} {W : List Nat} {D : List (Nat × Nat)} : eTok 33 v (W, D) = ((eOut 1 W D).1.tail, (eOut 1 W D).2) := rfl
/-- an operator behind a value: what waits still falls in rank; it waits too -/
theorem eTok_ow {k v q : Nat} {W : List Nat} {D : List (Nat × Nat)} (h : 0 < rnk k) (w : eS q W) (hg : hgt 0 D = some (nO W + 1)) : eS 3 (eTok k v (W, D)).1 ∧ nB (eTok k v (W, D)).1 = nB W ∧ hgt 0 (eTok k v (W, D)).2 = some (nO (eTok k v (W, D)).1) := by
  rw [eTok_o h]
  have h1 := eOut_w h W D q w
  have h2 := eOut_h h W D q w hg
  have ho := rnk_o h
  have hl := rnk_le k
  refine ⟨Or.inr ⟨h, by omega, h1.1⟩, ?_, ?_⟩
  · show (if k = 32 then 1 else 0) + nB (eOut (rnk k) W D).1 = nB W
    rw [if_neg (show ¬ k = 32 by omega), h1.2.1]; omega
  · rw [h2]
    show some (nO (eOut (rnk k) W D).1 + 1) = some ((if k = 32 then 0 else 1) + nO (eOut (rnk k) W D).1)
    rw [if_neg (show ¬ k = 32 by omega), Nat.add_comm]
/-- a value: one more lies there -/
theorem eTok_uw {k v : Nat} {W : List Nat} {D : List (Nat × Nat)} (h : isU k) (hg : hgt 0 D = some (nO W)) : (eTok k v (W, D)).1 = W ∧ hgt 0 (eTok k v (W, D)).2 = some (nO W + 1) := by
  rw [eTok_u h]
  refine ⟨rfl, ?_⟩
  show hgt 0 (D ++ [if k = 24 then (0, v) else (1, k - 14)]) = _
  rw [hgt_app, hg]
  show hgt (nO W) [if k = 24 then (0, v) else (1, k - 14)] = _
  unfold hgt
  rw [if_pos (show (if k = 24 then ((0, v) : Nat × Nat) else (1, k - 14)).1 ≤ 1 by split <;> first | exact Nat.zero_le 1 | exact Nat.le_refl 1)]
  rfl
/-- a bracket closed behind a value -/
theorem eTok_ew {v q : Nat} {W : List Nat} {D : List (Nat × Nat)} (w : eS q W) (hb : 0 < nB W) (hg : hgt 0 D = some (nO W + 1)) : eS 3 (eTok 33 v (W, D)).1 ∧ nB (eTok 33 v (W, D)).1 + 1 = nB W ∧ hgt 0 (eTok 33 v (W, D)).2 = some (nO (eTok 33 v (W, D)).1 + 1) := by
  rw [eTok_e]
  have h1 := eOut_w (r := 1) (by omega) W D q w
  have h2 := eOut_h (r := 1) (by omega) W D q w hg
  rcases eS_1 h1.1 with e | ⟨T, e, hT⟩
  · rw [e] at h1
    have : nB [] = 0 := rfl
    omega
  · rw [e] at h1 h2
    show eS 3 (eOut 1 W D).1.tail ∧ nB (eOut 1 W D).1.tail + 1 = nB W ∧ hgt 0 (eOut 1 W D).2 = some (nO (eOut 1 W D).1.tail + 1)
    rw [e]
    refine ⟨hT, ?_, ?_⟩
    · have h3 : (if (32 : Nat) = 32 then 1 else 0) + nB T = nB W := h1.2.1
      rw [if_pos rfl] at h3
      show nB T + 1 = nB W
      omega
    · rw [h2]
      show some ((if (32 : Nat) = 32 then 0 else 1) + nO T + 1) = some (nO T + 1)
      rw [if_pos rfl, Nat.zero_add]
