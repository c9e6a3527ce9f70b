theorem LC.fr {m m' : Me} {la : Nat} {W : List Nat} {D : List (Nat × Nat)} (h : LC m la W D) (a : gI m' la = gI m la) (b : gI m' (la + 1) = gI m (la + 1)) (c : gI m' (la + 5) = gI m (la + 5)) : LC m' la W D := ⟨by rw [a]; exact h.1, by rw [b]; exact h.2.1, by rw [a]; exact h.2.2.1, by rw [c]; exact h.2.2.2⟩
/-- THEN: what waits comes out, and a test stands -/
noncomputable def eThen (s : List Nat × List (Nat × Nat)) : List Nat × List (Nat × Nat) := ((eOut 1 s.1 s.2).1, (eOut 1 s.1 s.2).2 ++ [(6, 0)])
/-- a term's end: what waits comes out, and the answer -/
noncomputable def eEnd (s : List Nat × List (Nat × Nat)) : List Nat × List (Nat × Nat) := ((eOut 1 s.1 s.2).1, (eOut 1 s.1 s.2).2 ++ [(7, 0)])
/-- the tokens of a law from place a on, i of them: what waits, the code, the hole of the last test -/
noncomputable def eMake (K V : Nat → Nat) (a : Nat) (s : List Nat × List (Nat × Nat)) : Nat → (List Nat × List (Nat × Nat)) × Nat
  | 0 => (s, 0)
  | i + 1 => if K (a + i) = 12 then (eThen (eMake K V a s i).1, (eOut 1 (eMake K V a s i).1.1 (eMake K V a s i).1.2).2.length) else if K (a + i) = 13 then (((eEnd (eMake K V a s i).1).1, (eEnd (eMake K V a s i).1).2.set (eMake K V a s i).2 (6, (eEnd (eMake K V a s i).1).2.length)), (eMake K V a s i).2) else (eMk (K (a + i)) (V (a + i)) (eMake K V a s i).1, (eMake K V a s i).2)
/-- a token's number, as the class holds it -/
noncomputable def vG (B : Nat → Nat) (n z j : Nat) : Nat := if j < z then tD B n j else 0
