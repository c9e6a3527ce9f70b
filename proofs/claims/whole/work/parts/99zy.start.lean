/-- both sides made: they stand in the relation -/
theorem start_rl {m m' : Me} (hC : MkC m) (hR : MkR (nw m) m') : Rl 0 m' := by
  obtain ⟨c1, c2, c3, ⟨m0, c4, c5⟩, c6, c7, c8, c9, c10⟩ := hC
  obtain ⟨r1, r2, r3, r4, r5, r6, r7, r8, r9, r10, r11, r12, r13⟩ := hR
  have eI : ∀ x, x < 274 → gI m' x = gI m x := fun x h => (r3 x h).1.trans (nwIn (by omega))
  have eJ : ∀ x, x < 274 → gJ m' x = gJ m x := fun x h => (r3 x h).2.1.trans (nwJn (by omega))
  have eR : ∀ x, x < 274 → gR m' x = gR m x := fun x h => (r3 x h).2.2.trans (nwRn (by omega))
  have z : ∀ x, x < 274 → x ≠ 3 → ¬ (15 ≤ x ∧ x ≤ 20) → ¬ (226 ≤ x ∧ x ≤ 255) → ∀ k, gI m' x k = nI 0 := fun x h a b c k => by rw [eI x h, c6 x a b c]; rfl
  have hcx : CX m'.1 (gR m') 226 241 := c2 _ _ (by rw [r1]; decide) eR
  have hP : PlC m' 226 (plD drZ) := (PlC_z c3).keep (fun x a b _ => eI x (by omega))
  have hb : RoOk (plD drZ) 0 (bgM (plD drZ)) := bgM_ok plZ
  have hg : gw m' 15 = gw m 15 := gw_e (fun x a b => eI x (by omega))
  refine ⟨plD drZ, 226, 241, 0, r1, hcx, r2, hP, plZ, r5, hb.to r6, ?_, ⟨0, by omega, z 1 (by decide) (by decide) (by decide) (by decide) 1, r8, fun k hk => absurd hk (Nat.not_lt_zero k)⟩, ?_, ⟨fun k hk => ?_, r4⟩, ⟨0, 0, by omega, by omega, z 27 (by decide) (by decide) (by decide) (by decide) 1, z 27 (by decide) (by decide) (by decide) (by decide) 2, r10, fun j hj => absurd hj (Nat.not_lt_zero j)⟩, ⟨0, by omega, z 211 (by decide) (by decide) (by decide) (by decide) 3, r11, fun i hi => absurd hi (Nat.not_lt_zero i)⟩, fun j hj => Or.inl ⟨z 210 (by decide) (by decide) (by decide) (by decide) j, by rw [r13]; rfl⟩, fun k hk => Or.inl (by rw [r12]; rfl), ⟨[], by decide, r9, fun i k h => by cases h⟩⟩
  · rw [hg, c4]
    exact (bgS_cr plZ (PlC_z c5)).to r6
  · rw [eI 3 (by decide), c7, r7]
  · rw [eJ 4 (by decide), c8]
    exact kw_all k hk
