theorem sm_4 (f : Nat → Int32) : sm f 4 = f 0 + f 1 + f 2 + f 3 := by
  show 0 + f 0 + f 1 + f 2 + f 3 = _
  rw [Int32.zero_add]
theorem sm_z {f : Nat → Int32} {n : Nat} : ∀ k, (∀ i, n ≤ i → i < n + k → f i = 0) → sm f (n + k) = sm f n
  | 0, _ => rfl
  | k + 1, h => by
    rw [show n + (k + 1) = (n + k) + 1 by omega]
    show sm f (n + k) + f (n + k) = _
    rw [h (n + k) (by omega) (by omega), Int32.add_zero, sm_z k (fun i a b => h i a (by omega))]
theorem dry_ct {f w : Nat → Int32} : ∀ n, dryS f w n = ctS (fun c => if w c = -1 then nI 1 else f c) 0 n
  | 0 => rfl
  | n + 1 => by
    unfold dryS ctS
    by_cases h : w n = -1
    · rw [if_pos h, if_pos h, if_neg (by decide)]; exact dry_ct n
    · rw [if_neg h, if_neg h, dry_ct n]
theorem dry_eq {P : Pl} {M : Nat} (ok : PlOk P) {m : Me} {g : Nat} {r : Nat → Int32} (hr : RoOk P M r) (hc : CR P (gw m g) r) : dryS (gI m (g + 1)) (gI m (g + 2)) 40 = ctY r 0 P.wd P.rw := by
  rw [dry_ct]
  refine ct_eq ok (fun c hq l => ?_) (fun c hq l => ?_)
  · show (if gI m (g + 2) c = -1 then nI 1 else gI m (g + 1) c) = _
    rw [if_neg (by rw [gw_w hq]; exact fun z => (hc.wn ok hr hq).mp z l), gw_f hq, hc.f hq]
  · show ¬ (if gI m (g + 2) c = -1 then nI 1 else gI m (g + 1) c) = _
    rw [if_pos (by rw [gw_w hq]; exact (hc.wn ok hr hq).mpr l)]
    decide
/-- how many slots hold something -/
def shS (T : Nat → Int32) : Int32 := (if T 0 = 0 then nI 0 else nI 1) + (if T 1 = 0 then nI 0 else nI 1) + (if T 2 = 0 then nI 0 else nI 1)
def coK (P : Pl) (r : Nat → Int32) (tl un to sl : Int32) (k : Nat) : Int32 := if k = 0 then nI P.wd else if k = 1 then nI P.rw else if k = 2 then nI P.hd else if k = 3 then nI P.us else if k = 4 then r 104 else if k = 5 then sm r 40 else if k = 6 then sm (fun k => r (80 + k)) 4 else if k = 7 then sm (fun k => r (84 + k)) 4 else if k = 8 then tl else if k = 9 then un else if k = 10 then to else if k = 11 then sl else if k = 12 then guS P.gu P.se (r 104) else if k = 13 then nI P.bk else if k = 14 then nI (ctY (fun c => r (40 + c)) (nI 9) P.wd P.rw) else if k = 15 then nI (ctY r 0 P.wd P.rw) else if k = 16 then r 104 / nI 24 else sm P.ra P.hd
theorem coK0 {P : Pl} {r : Nat → Int32} {tl un to sl : Int32} : coK P r tl un to sl 0 = nI P.wd := if_pos rfl
theorem coK1 {P : Pl} {r : Nat → Int32} {tl un to sl : Int32} : coK P r tl un to sl 1 = nI P.rw := (if_neg (show ¬ 1 = 0 by decide)).trans (if_pos rfl)
theorem coK2 {P : Pl} {r : Nat → Int32} {tl un to sl : Int32} : coK P r tl un to sl 2 = nI P.hd := (if_neg (show ¬ 2 = 0 by decide)).trans ((if_neg (show ¬ 2 = 1 by decide)).trans (if_pos rfl))
theorem coK3 {P : Pl} {r : Nat → Int32} {tl un to sl : Int32} : coK P r tl un to sl 3 = nI P.us := (if_neg (show ¬ 3 = 0 by decide)).trans ((if_neg (show ¬ 3 = 1 by decide)).trans ((if_neg (show ¬ 3 = 2 by decide)).trans (if_pos rfl)))
theorem coK4 {P : Pl} {r : Nat → Int32} {tl un to sl : Int32} : coK P r tl un to sl 4 = r 104 := (if_neg (show ¬ 4 = 0 by decide)).trans ((if_neg (show ¬ 4 = 1 by decide)).trans ((if_neg (show ¬ 4 = 2 by decide)).trans ((if_neg (show ¬ 4 = 3 by decide)).trans (if_pos rfl))))
theorem coK5 {P : Pl} {r : Nat → Int32} {tl un to sl : Int32} : coK P r tl un to sl 5 = sm r 40 := (if_neg (show ¬ 5 = 0 by decide)).trans ((if_neg (show ¬ 5 = 1 by decide)).trans ((if_neg (show ¬ 5 = 2 by decide)).trans ((if_neg (show ¬ 5 = 3 by decide)).trans ((if_neg (show ¬ 5 = 4 by decide)).trans (if_pos rfl)))))
theorem coK6 {P : Pl} {r : Nat → Int32} {tl un to sl : Int32} : coK P r tl un to sl 6 = sm (fun k => r (80 + k)) 4 := (if_neg (show ¬ 6 = 0 by decide)).trans ((if_neg (show ¬ 6 = 1 by decide)).trans ((if_neg (show ¬ 6 = 2 by decide)).trans ((if_neg (show ¬ 6 = 3 by decide)).trans ((if_neg (show ¬ 6 = 4 by decide)).trans ((if_neg (show ¬ 6 = 5 by decide)).trans (if_pos rfl))))))
theorem coK7 {P : Pl} {r : Nat → Int32} {tl un to sl : Int32} : coK P r tl un to sl 7 = sm (fun k => r (84 + k)) 4 := (if_neg (show ¬ 7 = 0 by decide)).trans ((if_neg (show ¬ 7 = 1 by decide)).trans ((if_neg (show ¬ 7 = 2 by decide)).trans ((if_neg (show ¬ 7 = 3 by decide)).trans ((if_neg (show ¬ 7 = 4 by decide)).trans ((if_neg (show ¬ 7 = 5 by decide)).trans ((if_neg (show ¬ 7 = 6 by decide)).trans (if_pos rfl)))))))
theorem coK8 {P : Pl} {r : Nat → Int32} {tl un to sl : Int32} : coK P r tl un to sl 8 = tl := (if_neg (show ¬ 8 = 0 by decide)).trans ((if_neg (show ¬ 8 = 1 by decide)).trans ((if_neg (show ¬ 8 = 2 by decide)).trans ((if_neg (show ¬ 8 = 3 by decide)).trans ((if_neg (show ¬ 8 = 4 by decide)).trans ((if_neg (show ¬ 8 = 5 by decide)).trans ((if_neg (show ¬ 8 = 6 by decide)).trans ((if_neg (show ¬ 8 = 7 by decide)).trans (if_pos rfl))))))))
theorem coK9 {P : Pl} {r : Nat → Int32} {tl un to sl : Int32} : coK P r tl un to sl 9 = un := (if_neg (show ¬ 9 = 0 by decide)).trans ((if_neg (show ¬ 9 = 1 by decide)).trans ((if_neg (show ¬ 9 = 2 by decide)).trans ((if_neg (show ¬ 9 = 3 by decide)).trans ((if_neg (show ¬ 9 = 4 by decide)).trans ((if_neg (show ¬ 9 = 5 by decide)).trans ((if_neg (show ¬ 9 = 6 by decide)).trans ((if_neg (show ¬ 9 = 7 by decide)).trans ((if_neg (show ¬ 9 = 8 by decide)).trans (if_pos rfl)))))))))
theorem coK10 {P : Pl} {r : Nat → Int32} {tl un to sl : Int32} : coK P r tl un to sl 10 = to := (if_neg (show ¬ 10 = 0 by decide)).trans ((if_neg (show ¬ 10 = 1 by decide)).trans ((if_neg (show ¬ 10 = 2 by decide)).trans ((if_neg (show ¬ 10 = 3 by decide)).trans ((if_neg (show ¬ 10 = 4 by decide)).trans ((if_neg (show ¬ 10 = 5 by decide)).trans ((if_neg (show ¬ 10 = 6 by decide)).trans ((if_neg (show ¬ 10 = 7 by decide)).trans ((if_neg (show ¬ 10 = 8 by decide)).trans ((if_neg (show ¬ 10 = 9 by decide)).trans (if_pos rfl))))))))))
theorem coK11 {P : Pl} {r : Nat → Int32} {tl un to sl : Int32} : coK P r tl un to sl 11 = sl := (if_neg (show ¬ 11 = 0 by decide)).trans ((if_neg (show ¬ 11 = 1 by decide)).trans ((if_neg (show ¬ 11 = 2 by decide)).trans ((if_neg (show ¬ 11 = 3 by decide)).trans ((if_neg (show ¬ 11 = 4 by decide)).trans ((if_neg (show ¬ 11 = 5 by decide)).trans ((if_neg (show ¬ 11 = 6 by decide)).trans ((if_neg (show ¬ 11 = 7 by decide)).trans ((if_neg (show ¬ 11 = 8 by decide)).trans ((if_neg (show ¬ 11 = 9 by decide)).trans ((if_neg (show ¬ 11 = 10 by decide)).trans (if_pos rfl)))))))))))
theorem coK12 {P : Pl} {r : Nat → Int32} {tl un to sl : Int32} : coK P r tl un to sl 12 = guS P.gu P.se (r 104) := (if_neg (show ¬ 12 = 0 by decide)).trans ((if_neg (show ¬ 12 = 1 by decide)).trans ((if_neg (show ¬ 12 = 2 by decide)).trans ((if_neg (show ¬ 12 = 3 by decide)).trans ((if_neg (show ¬ 12 = 4 by decide)).trans ((if_neg (show ¬ 12 = 5 by decide)).trans ((if_neg (show ¬ 12 = 6 by decide)).trans ((if_neg (show ¬ 12 = 7 by decide)).trans ((if_neg (show ¬ 12 = 8 by decide)).trans ((if_neg (show ¬ 12 = 9 by decide)).trans ((if_neg (show ¬ 12 = 10 by decide)).trans ((if_neg (show ¬ 12 = 11 by decide)).trans (if_pos rfl))))))))))))
theorem coK13 {P : Pl} {r : Nat → Int32} {tl un to sl : Int32} : coK P r tl un to sl 13 = nI P.bk := (if_neg (show ¬ 13 = 0 by decide)).trans ((if_neg (show ¬ 13 = 1 by decide)).trans ((if_neg (show ¬ 13 = 2 by decide)).trans ((if_neg (show ¬ 13 = 3 by decide)).trans ((if_neg (show ¬ 13 = 4 by decide)).trans ((if_neg (show ¬ 13 = 5 by decide)).trans ((if_neg (show ¬ 13 = 6 by decide)).trans ((if_neg (show ¬ 13 = 7 by decide)).trans ((if_neg (show ¬ 13 = 8 by decide)).trans ((if_neg (show ¬ 13 = 9 by decide)).trans ((if_neg (show ¬ 13 = 10 by decide)).trans ((if_neg (show ¬ 13 = 11 by decide)).trans ((if_neg (show ¬ 13 = 12 by decide)).trans (if_pos rfl)))))))))))))
theorem coK14 {P : Pl} {r : Nat → Int32} {tl un to sl : Int32} : coK P r tl un to sl 14 = nI (ctY (fun c => r (40 + c)) (nI 9) P.wd P.rw) := (if_neg (show ¬ 14 = 0 by decide)).trans ((if_neg (show ¬ 14 = 1 by decide)).trans ((if_neg (show ¬ 14 = 2 by decide)).trans ((if_neg (show ¬ 14 = 3 by decide)).trans ((if_neg (show ¬ 14 = 4 by decide)).trans ((if_neg (show ¬ 14 = 5 by decide)).trans ((if_neg (show ¬ 14 = 6 by decide)).trans ((if_neg (show ¬ 14 = 7 by decide)).trans ((if_neg (show ¬ 14 = 8 by decide)).trans ((if_neg (show ¬ 14 = 9 by decide)).trans ((if_neg (show ¬ 14 = 10 by decide)).trans ((if_neg (show ¬ 14 = 11 by decide)).trans ((if_neg (show ¬ 14 = 12 by decide)).trans ((if_neg (show ¬ 14 = 13 by decide)).trans (if_pos rfl))))))))))))))
theorem coK15 {P : Pl} {r : Nat → Int32} {tl un to sl : Int32} : coK P r tl un to sl 15 = nI (ctY r 0 P.wd P.rw) := (if_neg (show ¬ 15 = 0 by decide)).trans ((if_neg (show ¬ 15 = 1 by decide)).trans ((if_neg (show ¬ 15 = 2 by decide)).trans ((if_neg (show ¬ 15 = 3 by decide)).trans ((if_neg (show ¬ 15 = 4 by decide)).trans ((if_neg (show ¬ 15 = 5 by decide)).trans ((if_neg (show ¬ 15 = 6 by decide)).trans ((if_neg (show ¬ 15 = 7 by decide)).trans ((if_neg (show ¬ 15 = 8 by decide)).trans ((if_neg (show ¬ 15 = 9 by decide)).trans ((if_neg (show ¬ 15 = 10 by decide)).trans ((if_neg (show ¬ 15 = 11 by decide)).trans ((if_neg (show ¬ 15 = 12 by decide)).trans ((if_neg (show ¬ 15 = 13 by decide)).trans ((if_neg (show ¬ 15 = 14 by decide)).trans (if_pos rfl)))))))))))))))
theorem coK16 {P : Pl} {r : Nat → Int32} {tl un to sl : Int32} : coK P r tl un to sl 16 = r 104 / nI 24 := (if_neg (show ¬ 16 = 0 by decide)).trans ((if_neg (show ¬ 16 = 1 by decide)).trans ((if_neg (show ¬ 16 = 2 by decide)).trans ((if_neg (show ¬ 16 = 3 by decide)).trans ((if_neg (show ¬ 16 = 4 by decide)).trans ((if_neg (show ¬ 16 = 5 by decide)).trans ((if_neg (show ¬ 16 = 6 by decide)).trans ((if_neg (show ¬ 16 = 7 by decide)).trans ((if_neg (show ¬ 16 = 8 by decide)).trans ((if_neg (show ¬ 16 = 9 by decide)).trans ((if_neg (show ¬ 16 = 10 by decide)).trans ((if_neg (show ¬ 16 = 11 by decide)).trans ((if_neg (show ¬ 16 = 12 by decide)).trans ((if_neg (show ¬ 16 = 13 by decide)).trans ((if_neg (show ¬ 16 = 14 by decide)).trans ((if_neg (show ¬ 16 = 15 by decide)).trans (if_pos rfl))))))))))))))))
theorem coK17 {P : Pl} {r : Nat → Int32} {tl un to sl : Int32} : coK P r tl un to sl 17 = sm P.ra P.hd := (if_neg (show ¬ 17 = 0 by decide)).trans ((if_neg (show ¬ 17 = 1 by decide)).trans ((if_neg (show ¬ 17 = 2 by decide)).trans ((if_neg (show ¬ 17 = 3 by decide)).trans ((if_neg (show ¬ 17 = 4 by decide)).trans ((if_neg (show ¬ 17 = 5 by decide)).trans ((if_neg (show ¬ 17 = 6 by decide)).trans ((if_neg (show ¬ 17 = 7 by decide)).trans ((if_neg (show ¬ 17 = 8 by decide)).trans ((if_neg (show ¬ 17 = 9 by decide)).trans ((if_neg (show ¬ 17 = 10 by decide)).trans ((if_neg (show ¬ 17 = 11 by decide)).trans ((if_neg (show ¬ 17 = 12 by decide)).trans ((if_neg (show ¬ 17 = 13 by decide)).trans ((if_neg (show ¬ 17 = 14 by decide)).trans ((if_neg (show ¬ 17 = 15 by decide)).trans (if_neg (show ¬ 17 = 16 by decide)))))))))))))))))
def coS (P : Pl) (r : Nat → Int32) (tl un to sl w : Int32) : Int32 := if inS w (nI 0) (nI 17) = nI 0 then -1 else coK P r tl un to sl w.toNatClampNeg
theorem coS_k {P : Pl} {r : Nat → Int32} {tl un to sl : Int32} {k : Nat} (hk : k ≤ 17) : coS P r tl un to sl (nI k) = coK P r tl un to sl k := by
  unfold coS
  rw [if_neg (by rw [in_yes (nI_ge0 (by omega)) (by rw [nI_ltI (by omega) (by omega)]; omega)]; decide), nI_clamp (by omega)]
theorem gu01 (a b h : Int32) : guS a b h = nI 0 ∨ guS a b h = nI 1 := by
  unfold guS
  split
  · exact Or.inl rfl
  · exact Or.inr rfl
set_option maxRecDepth 100000 in
set_option maxHeartbeats 8000000 in
theorem ev_slotsHeld {m : Me} {pl dr : Nat} (hX : CX m.1 (gR m) pl dr) : Ev mX11_slotsHeld [.ref 0] m (fun o m' => o = some (.int (shS (gI m 210))) ∧ m' = m) := by
  refine ⟨plmX11_slotsHeld, nle rfl, ?_⟩
  by_cases e0 : gI m 210 0 = 0
  · skip
    by_cases e1 : gI m 210 1 = 0
    · skip
      by_cases e2 : gI m 210 2 = 0
      · skip
        refine go_iconst (v := nI 0) (by decide) dX11_slotsHeld_0 ?_
        refine go_istore_n (q := 1) (i := 1) rfl dX11_slotsHeld_1 (nle rfl) (nle rfl) ?_
        refine go_iconst (v := nI 0) (by decide) dX11_slotsHeld_2 ?_
        refine go_istore_n (q := 2) (i := 2) rfl dX11_slotsHeld_3 (nle rfl) (nle rfl) ?_
        refine go_L (L' := [some (.ref 0), some (.int (nI 0)), some (.int (nI 0))]) rfl ?_
        refine go_iload_n (q := 2) (i := 2) rfl rfl dX11_slotsHeld_4 ?_
        refine go_iconst (v := nI 3) (by decide) dX11_slotsHeld_5 ?_
        refine gn_ge (by omega) (by omega) (tgt := 27) dX11_slotsHeld_6 (by decide) (fun h6 => by exfalso; omega) (fun h6 => ?_)
        refine go_aload_n (q := 0) (i := 0) rfl rfl dX11_slotsHeld_9 ?_
        refine go_getR lf11_65 rfl hX.o hX.r9 dX11_slotsHeld_10 ?_
        refine go_iload_n (q := 2) (i := 2) rfl rfl dX11_slotsHeld_13 ?_
        refine go_zald (j := 0) hX.i9 (by omega) (by first | decide | omega) rfl dX11_slotsHeld_14 ?_
        refine go_if_eq (tgt := 21) dX11_slotsHeld_15 (by decide) (fun h15 => ?_) (fun h15 => by exfalso; exact h15 e0)
        refine gn_inc (i := 2) (a := 0) (q := 1) rfl dX11_slotsHeld_21 (nle rfl) rfl ?_
        refine go_goto (tgt := 4) dX11_slotsHeld_24 (by decide) ?_
        refine go_L (L' := [some (.ref 0), some (.int (nI 0)), some (.int (nI (0 + 1)))]) rfl ?_
        refine go_iload_n (q := 2) (i := 2) rfl rfl dX11_slotsHeld_4 ?_
        refine go_iconst (v := nI 3) (by decide) dX11_slotsHeld_5 ?_
        refine gn_ge (by omega) (by omega) (tgt := 27) dX11_slotsHeld_6 (by decide) (fun h6 => by exfalso; omega) (fun h6 => ?_)
        refine go_aload_n (q := 0) (i := 0) rfl rfl dX11_slotsHeld_9 ?_
        refine go_getR lf11_65 rfl hX.o hX.r9 dX11_slotsHeld_10 ?_
        refine go_iload_n (q := 2) (i := 2) rfl rfl dX11_slotsHeld_13 ?_
        refine go_zald (j := (0 + 1)) hX.i9 (by omega) (by first | decide | omega) rfl dX11_slotsHeld_14 ?_
        refine go_if_eq (tgt := 21) dX11_slotsHeld_15 (by decide) (fun h15 => ?_) (fun h15 => by exfalso; exact h15 e1)
        refine gn_inc (i := 2) (a := 0 + 1) (q := 1) rfl dX11_slotsHeld_21 (nle rfl) rfl ?_
        refine go_goto (tgt := 4) dX11_slotsHeld_24 (by decide) ?_
        refine go_L (L' := [some (.ref 0), some (.int (nI 0)), some (.int (nI ((0 + 1) + 1)))]) rfl ?_
        refine go_iload_n (q := 2) (i := 2) rfl rfl dX11_slotsHeld_4 ?_
        refine go_iconst (v := nI 3) (by decide) dX11_slotsHeld_5 ?_
        refine gn_ge (by omega) (by omega) (tgt := 27) dX11_slotsHeld_6 (by decide) (fun h6 => by exfalso; omega) (fun h6 => ?_)
        refine go_aload_n (q := 0) (i := 0) rfl rfl dX11_slotsHeld_9 ?_
        refine go_getR lf11_65 rfl hX.o hX.r9 dX11_slotsHeld_10 ?_
        refine go_iload_n (q := 2) (i := 2) rfl rfl dX11_slotsHeld_13 ?_
        refine go_zald (j := ((0 + 1) + 1)) hX.i9 (by omega) (by first | decide | omega) rfl dX11_slotsHeld_14 ?_
        refine go_if_eq (tgt := 21) dX11_slotsHeld_15 (by decide) (fun h15 => ?_) (fun h15 => by exfalso; exact h15 e2)
        refine gn_inc (i := 2) (a := (0 + 1) + 1) (q := 1) rfl dX11_slotsHeld_21 (nle rfl) rfl ?_
        refine go_goto (tgt := 4) dX11_slotsHeld_24 (by decide) ?_
        refine go_L (L' := [some (.ref 0), some (.int (nI 0)), some (.int (nI (((0 + 1) + 1) + 1)))]) rfl ?_
        refine go_iload_n (q := 2) (i := 2) rfl rfl dX11_slotsHeld_4 ?_
        refine go_iconst (v := nI 3) (by decide) dX11_slotsHeld_5 ?_
        refine gn_ge (by omega) (by omega) (tgt := 27) dX11_slotsHeld_6 (by decide) (fun h6 => ?_) (fun h6 => by exfalso; omega)
        refine go_iload_n (q := 1) (i := 1) rfl rfl dX11_slotsHeld_27 ?_
        refine go_iret rfl ⟨Nat.zero_le _, Nat.zero_le _⟩ dX11_slotsHeld_28 ?_
        refine ⟨?_, rfl⟩
        unfold shS
        rw [if_pos e0, if_pos e1, if_pos e2]
        rfl
      · skip
        refine go_iconst (v := nI 0) (by decide) dX11_slotsHeld_0 ?_
        refine go_istore_n (q := 1) (i := 1) rfl dX11_slotsHeld_1 (nle rfl) (nle rfl) ?_
        refine go_iconst (v := nI 0) (by decide) dX11_slotsHeld_2 ?_
        refine go_istore_n (q := 2) (i := 2) rfl dX11_slotsHeld_3 (nle rfl) (nle rfl) ?_
        refine go_L (L' := [some (.ref 0), some (.int (nI 0)), some (.int (nI 0))]) rfl ?_
        refine go_iload_n (q := 2) (i := 2) rfl rfl dX11_slotsHeld_4 ?_
        refine go_iconst (v := nI 3) (by decide) dX11_slotsHeld_5 ?_
        refine gn_ge (by omega) (by omega) (tgt := 27) dX11_slotsHeld_6 (by decide) (fun h6 => by exfalso; omega) (fun h6 => ?_)
        refine go_aload_n (q := 0) (i := 0) rfl rfl dX11_slotsHeld_9 ?_
        refine go_getR lf11_65 rfl hX.o hX.r9 dX11_slotsHeld_10 ?_
        refine go_iload_n (q := 2) (i := 2) rfl rfl dX11_slotsHeld_13 ?_
        refine go_zald (j := 0) hX.i9 (by omega) (by first | decide | omega) rfl dX11_slotsHeld_14 ?_
        refine go_if_eq (tgt := 21) dX11_slotsHeld_15 (by decide) (fun h15 => ?_) (fun h15 => by exfalso; exact h15 e0)
        refine gn_inc (i := 2) (a := 0) (q := 1) rfl dX11_slotsHeld_21 (nle rfl) rfl ?_
        refine go_goto (tgt := 4) dX11_slotsHeld_24 (by decide) ?_
        refine go_L (L' := [some (.ref 0), some (.int (nI 0)), some (.int (nI (0 + 1)))]) rfl ?_
        refine go_iload_n (q := 2) (i := 2) rfl rfl dX11_slotsHeld_4 ?_
        refine go_iconst (v := nI 3) (by decide) dX11_slotsHeld_5 ?_
        refine gn_ge (by omega) (by omega) (tgt := 27) dX11_slotsHeld_6 (by decide) (fun h6 => by exfalso; omega) (fun h6 => ?_)
        refine go_aload_n (q := 0) (i := 0) rfl rfl dX11_slotsHeld_9 ?_
        refine go_getR lf11_65 rfl hX.o hX.r9 dX11_slotsHeld_10 ?_
        refine go_iload_n (q := 2) (i := 2) rfl rfl dX11_slotsHeld_13 ?_
        refine go_zald (j := (0 + 1)) hX.i9 (by omega) (by first | decide | omega) rfl dX11_slotsHeld_14 ?_
        refine go_if_eq (tgt := 21) dX11_slotsHeld_15 (by decide) (fun h15 => ?_) (fun h15 => by exfalso; exact h15 e1)
        refine gn_inc (i := 2) (a := 0 + 1) (q := 1) rfl dX11_slotsHeld_21 (nle rfl) rfl ?_
        refine go_goto (tgt := 4) dX11_slotsHeld_24 (by decide) ?_
        refine go_L (L' := [some (.ref 0), some (.int (nI 0)), some (.int (nI ((0 + 1) + 1)))]) rfl ?_
        refine go_iload_n (q := 2) (i := 2) rfl rfl dX11_slotsHeld_4 ?_
        refine go_iconst (v := nI 3) (by decide) dX11_slotsHeld_5 ?_
        refine gn_ge (by omega) (by omega) (tgt := 27) dX11_slotsHeld_6 (by decide) (fun h6 => by exfalso; omega) (fun h6 => ?_)
        refine go_aload_n (q := 0) (i := 0) rfl rfl dX11_slotsHeld_9 ?_
        refine go_getR lf11_65 rfl hX.o hX.r9 dX11_slotsHeld_10 ?_
        refine go_iload_n (q := 2) (i := 2) rfl rfl dX11_slotsHeld_13 ?_
        refine go_zald (j := ((0 + 1) + 1)) hX.i9 (by omega) (by first | decide | omega) rfl dX11_slotsHeld_14 ?_
        refine go_if_eq (tgt := 21) dX11_slotsHeld_15 (by decide) (fun h15 => by exfalso; exact e2 h15) (fun h15 => ?_)
        refine gn_inc (i := 1) (a := 0) (q := 1) rfl dX11_slotsHeld_18 (nle rfl) rfl ?_
        refine gn_inc (i := 2) (a := (0 + 1) + 1) (q := 1) rfl dX11_slotsHeld_21 (nle rfl) rfl ?_
        refine go_goto (tgt := 4) dX11_slotsHeld_24 (by decide) ?_
        refine go_L (L' := [some (.ref 0), some (.int (nI (0 + 1))), some (.int (nI (((0 + 1) + 1) + 1)))]) rfl ?_
        refine go_iload_n (q := 2) (i := 2) rfl rfl dX11_slotsHeld_4 ?_
        refine go_iconst (v := nI 3) (by decide) dX11_slotsHeld_5 ?_
        refine gn_ge (by omega) (by omega) (tgt := 27) dX11_slotsHeld_6 (by decide) (fun h6 => ?_) (fun h6 => by exfalso; omega)
        refine go_iload_n (q := 1) (i := 1) rfl rfl dX11_slotsHeld_27 ?_
        refine go_iret rfl ⟨Nat.zero_le _, Nat.zero_le _⟩ dX11_slotsHeld_28 ?_
        refine ⟨?_, rfl⟩
        unfold shS
        rw [if_pos e0, if_pos e1, if_neg e2]
        rfl
    · skip
      by_cases e2 : gI m 210 2 = 0
      · skip
        refine go_iconst (v := nI 0) (by decide) dX11_slotsHeld_0 ?_
        refine go_istore_n (q := 1) (i := 1) rfl dX11_slotsHeld_1 (nle rfl) (nle rfl) ?_
        refine go_iconst (v := nI 0) (by decide) dX11_slotsHeld_2 ?_
        refine go_istore_n (q := 2) (i := 2) rfl dX11_slotsHeld_3 (nle rfl) (nle rfl) ?_
        refine go_L (L' := [some (.ref 0), some (.int (nI 0)), some (.int (nI 0))]) rfl ?_
        refine go_iload_n (q := 2) (i := 2) rfl rfl dX11_slotsHeld_4 ?_
        refine go_iconst (v := nI 3) (by decide) dX11_slotsHeld_5 ?_
        refine gn_ge (by omega) (by omega) (tgt := 27) dX11_slotsHeld_6 (by decide) (fun h6 => by exfalso; omega) (fun h6 => ?_)
        refine go_aload_n (q := 0) (i := 0) rfl rfl dX11_slotsHeld_9 ?_
        refine go_getR lf11_65 rfl hX.o hX.r9 dX11_slotsHeld_10 ?_
        refine go_iload_n (q := 2) (i := 2) rfl rfl dX11_slotsHeld_13 ?_
        refine go_zald (j := 0) hX.i9 (by omega) (by first | decide | omega) rfl dX11_slotsHeld_14 ?_
        refine go_if_eq (tgt := 21) dX11_slotsHeld_15 (by decide) (fun h15 => ?_) (fun h15 => by exfalso; exact h15 e0)
        refine gn_inc (i := 2) (a := 0) (q := 1) rfl dX11_slotsHeld_21 (nle rfl) rfl ?_
        refine go_goto (tgt := 4) dX11_slotsHeld_24 (by decide) ?_
        refine go_L (L' := [some (.ref 0), some (.int (nI 0)), some (.int (nI (0 + 1)))]) rfl ?_
        refine go_iload_n (q := 2) (i := 2) rfl rfl dX11_slotsHeld_4 ?_
        refine go_iconst (v := nI 3) (by decide) dX11_slotsHeld_5 ?_
        refine gn_ge (by omega) (by omega) (tgt := 27) dX11_slotsHeld_6 (by decide) (fun h6 => by exfalso; omega) (fun h6 => ?_)
        refine go_aload_n (q := 0) (i := 0) rfl rfl dX11_slotsHeld_9 ?_
        refine go_getR lf11_65 rfl hX.o hX.r9 dX11_slotsHeld_10 ?_
        refine go_iload_n (q := 2) (i := 2) rfl rfl dX11_slotsHeld_13 ?_
        refine go_zald (j := (0 + 1)) hX.i9 (by omega) (by first | decide | omega) rfl dX11_slotsHeld_14 ?_
        refine go_if_eq (tgt := 21) dX11_slotsHeld_15 (by decide) (fun h15 => by exfalso; exact e1 h15) (fun h15 => ?_)
        refine gn_inc (i := 1) (a := 0) (q := 1) rfl dX11_slotsHeld_18 (nle rfl) rfl ?_
        refine gn_inc (i := 2) (a := 0 + 1) (q := 1) rfl dX11_slotsHeld_21 (nle rfl) rfl ?_
        refine go_goto (tgt := 4) dX11_slotsHeld_24 (by decide) ?_
        refine go_L (L' := [some (.ref 0), some (.int (nI (0 + 1))), some (.int (nI ((0 + 1) + 1)))]) rfl ?_
        refine go_iload_n (q := 2) (i := 2) rfl rfl dX11_slotsHeld_4 ?_
        refine go_iconst (v := nI 3) (by decide) dX11_slotsHeld_5 ?_
        refine gn_ge (by omega) (by omega) (tgt := 27) dX11_slotsHeld_6 (by decide) (fun h6 => by exfalso; omega) (fun h6 => ?_)
        refine go_aload_n (q := 0) (i := 0) rfl rfl dX11_slotsHeld_9 ?_
        refine go_getR lf11_65 rfl hX.o hX.r9 dX11_slotsHeld_10 ?_
        refine go_iload_n (q := 2) (i := 2) rfl rfl dX11_slotsHeld_13 ?_
        refine go_zald (j := ((0 + 1) + 1)) hX.i9 (by omega) (by first | decide | omega) rfl dX11_slotsHeld_14 ?_
        refine go_if_eq (tgt := 21) dX11_slotsHeld_15 (by decide) (fun h15 => ?_) (fun h15 => by exfalso; exact h15 e2)
        refine gn_inc (i := 2) (a := (0 + 1) + 1) (q := 1) rfl dX11_slotsHeld_21 (nle rfl) rfl ?_
        refine go_goto (tgt := 4) dX11_slotsHeld_24 (by decide) ?_
        refine go_L (L' := [some (.ref 0), some (.int (nI (0 + 1))), some (.int (nI (((0 + 1) + 1) + 1)))]) rfl ?_
        refine go_iload_n (q := 2) (i := 2) rfl rfl dX11_slotsHeld_4 ?_
        refine go_iconst (v := nI 3) (by decide) dX11_slotsHeld_5 ?_
        refine gn_ge (by omega) (by omega) (tgt := 27) dX11_slotsHeld_6 (by decide) (fun h6 => ?_) (fun h6 => by exfalso; omega)
        refine go_iload_n (q := 1) (i := 1) rfl rfl dX11_slotsHeld_27 ?_
        refine go_iret rfl ⟨Nat.zero_le _, Nat.zero_le _⟩ dX11_slotsHeld_28 ?_
        refine ⟨?_, rfl⟩
        unfold shS
        rw [if_pos e0, if_neg e1, if_pos e2]
        rfl
      · skip
        refine go_iconst (v := nI 0) (by decide) dX11_slotsHeld_0 ?_
        refine go_istore_n (q := 1) (i := 1) rfl dX11_slotsHeld_1 (nle rfl) (nle rfl) ?_
        refine go_iconst (v := nI 0) (by decide) dX11_slotsHeld_2 ?_
        refine go_istore_n (q := 2) (i := 2) rfl dX11_slotsHeld_3 (nle rfl) (nle rfl) ?_
        refine go_L (L' := [some (.ref 0), some (.int (nI 0)), some (.int (nI 0))]) rfl ?_
        refine go_iload_n (q := 2) (i := 2) rfl rfl dX11_slotsHeld_4 ?_
        refine go_iconst (v := nI 3) (by decide) dX11_slotsHeld_5 ?_
        refine gn_ge (by omega) (by omega) (tgt := 27) dX11_slotsHeld_6 (by decide) (fun h6 => by exfalso; omega) (fun h6 => ?_)
        refine go_aload_n (q := 0) (i := 0) rfl rfl dX11_slotsHeld_9 ?_
        refine go_getR lf11_65 rfl hX.o hX.r9 dX11_slotsHeld_10 ?_
        refine go_iload_n (q := 2) (i := 2) rfl rfl dX11_slotsHeld_13 ?_
        refine go_zald (j := 0) hX.i9 (by omega) (by first | decide | omega) rfl dX11_slotsHeld_14 ?_
        refine go_if_eq (tgt := 21) dX11_slotsHeld_15 (by decide) (fun h15 => ?_) (fun h15 => by exfalso; exact h15 e0)
        refine gn_inc (i := 2) (a := 0) (q := 1) rfl dX11_slotsHeld_21 (nle rfl) rfl ?_
        refine go_goto (tgt := 4) dX11_slotsHeld_24 (by decide) ?_
        refine go_L (L' := [some (.ref 0), some (.int (nI 0)), some (.int (nI (0 + 1)))]) rfl ?_
        refine go_iload_n (q := 2) (i := 2) rfl rfl dX11_slotsHeld_4 ?_
        refine go_iconst (v := nI 3) (by decide) dX11_slotsHeld_5 ?_
        refine gn_ge (by omega) (by omega) (tgt := 27) dX11_slotsHeld_6 (by decide) (fun h6 => by exfalso; omega) (fun h6 => ?_)
        refine go_aload_n (q := 0) (i := 0) rfl rfl dX11_slotsHeld_9 ?_
        refine go_getR lf11_65 rfl hX.o hX.r9 dX11_slotsHeld_10 ?_
        refine go_iload_n (q := 2) (i := 2) rfl rfl dX11_slotsHeld_13 ?_
        refine go_zald (j := (0 + 1)) hX.i9 (by omega) (by first | decide | omega) rfl dX11_slotsHeld_14 ?_
        refine go_if_eq (tgt := 21) dX11_slotsHeld_15 (by decide) (fun h15 => by exfalso; exact e1 h15) (fun h15 => ?_)
        refine gn_inc (i := 1) (a := 0) (q := 1) rfl dX11_slotsHeld_18 (nle rfl) rfl ?_
        refine gn_inc (i := 2) (a := 0 + 1) (q := 1) rfl dX11_slotsHeld_21 (nle rfl) rfl ?_
        refine go_goto (tgt := 4) dX11_slotsHeld_24 (by decide) ?_
        refine go_L (L' := [some (.ref 0), some (.int (nI (0 + 1))), some (.int (nI ((0 + 1) + 1)))]) rfl ?_
        refine go_iload_n (q := 2) (i := 2) rfl rfl dX11_slotsHeld_4 ?_
        refine go_iconst (v := nI 3) (by decide) dX11_slotsHeld_5 ?_
        refine gn_ge (by omega) (by omega) (tgt := 27) dX11_slotsHeld_6 (by decide) (fun h6 => by exfalso; omega) (fun h6 => ?_)
        refine go_aload_n (q := 0) (i := 0) rfl rfl dX11_slotsHeld_9 ?_
        refine go_getR lf11_65 rfl hX.o hX.r9 dX11_slotsHeld_10 ?_
        refine go_iload_n (q := 2) (i := 2) rfl rfl dX11_slotsHeld_13 ?_
        refine go_zald (j := ((0 + 1) + 1)) hX.i9 (by omega) (by first | decide | omega) rfl dX11_slotsHeld_14 ?_
        refine go_if_eq (tgt := 21) dX11_slotsHeld_15 (by decide) (fun h15 => by exfalso; exact e2 h15) (fun h15 => ?_)
        refine gn_inc (i := 1) (a := 0 + 1) (q := 1) rfl dX11_slotsHeld_18 (nle rfl) rfl ?_
        refine gn_inc (i := 2) (a := (0 + 1) + 1) (q := 1) rfl dX11_slotsHeld_21 (nle rfl) rfl ?_
        refine go_goto (tgt := 4) dX11_slotsHeld_24 (by decide) ?_
        refine go_L (L' := [some (.ref 0), some (.int (nI ((0 + 1) + 1))), some (.int (nI (((0 + 1) + 1) + 1)))]) rfl ?_
        refine go_iload_n (q := 2) (i := 2) rfl rfl dX11_slotsHeld_4 ?_
        refine go_iconst (v := nI 3) (by decide) dX11_slotsHeld_5 ?_
        refine gn_ge (by omega) (by omega) (tgt := 27) dX11_slotsHeld_6 (by decide) (fun h6 => ?_) (fun h6 => by exfalso; omega)
        refine go_iload_n (q := 1) (i := 1) rfl rfl dX11_slotsHeld_27 ?_
        refine go_iret rfl ⟨Nat.zero_le _, Nat.zero_le _⟩ dX11_slotsHeld_28 ?_
        refine ⟨?_, rfl⟩
        unfold shS
        rw [if_pos e0, if_neg e1, if_neg e2]
        rfl
  · skip
    by_cases e1 : gI m 210 1 = 0
    · skip
      by_cases e2 : gI m 210 2 = 0
      · skip
        refine go_iconst (v := nI 0) (by decide) dX11_slotsHeld_0 ?_
        refine go_istore_n (q := 1) (i := 1) rfl dX11_slotsHeld_1 (nle rfl) (nle rfl) ?_
        refine go_iconst (v := nI 0) (by decide) dX11_slotsHeld_2 ?_
        refine go_istore_n (q := 2) (i := 2) rfl dX11_slotsHeld_3 (nle rfl) (nle rfl) ?_
        refine go_L (L' := [some (.ref 0), some (.int (nI 0)), some (.int (nI 0))]) rfl ?_
        refine go_iload_n (q := 2) (i := 2) rfl rfl dX11_slotsHeld_4 ?_
        refine go_iconst (v := nI 3) (by decide) dX11_slotsHeld_5 ?_
        refine gn_ge (by omega) (by omega) (tgt := 27) dX11_slotsHeld_6 (by decide) (fun h6 => by exfalso; omega) (fun h6 => ?_)
        refine go_aload_n (q := 0) (i := 0) rfl rfl dX11_slotsHeld_9 ?_
        refine go_getR lf11_65 rfl hX.o hX.r9 dX11_slotsHeld_10 ?_
        refine go_iload_n (q := 2) (i := 2) rfl rfl dX11_slotsHeld_13 ?_
        refine go_zald (j := 0) hX.i9 (by omega) (by first | decide | omega) rfl dX11_slotsHeld_14 ?_
        refine go_if_eq (tgt := 21) dX11_slotsHeld_15 (by decide) (fun h15 => by exfalso; exact e0 h15) (fun h15 => ?_)
        refine gn_inc (i := 1) (a := 0) (q := 1) rfl dX11_slotsHeld_18 (nle rfl) rfl ?_
        refine gn_inc (i := 2) (a := 0) (q := 1) rfl dX11_slotsHeld_21 (nle rfl) rfl ?_
        refine go_goto (tgt := 4) dX11_slotsHeld_24 (by decide) ?_
        refine go_L (L' := [some (.ref 0), some (.int (nI (0 + 1))), some (.int (nI (0 + 1)))]) rfl ?_
        refine go_iload_n (q := 2) (i := 2) rfl rfl dX11_slotsHeld_4 ?_
        refine go_iconst (v := nI 3) (by decide) dX11_slotsHeld_5 ?_
        refine gn_ge (by omega) (by omega) (tgt := 27) dX11_slotsHeld_6 (by decide) (fun h6 => by exfalso; omega) (fun h6 => ?_)
        refine go_aload_n (q := 0) (i := 0) rfl rfl dX11_slotsHeld_9 ?_
        refine go_getR lf11_65 rfl hX.o hX.r9 dX11_slotsHeld_10 ?_
        refine go_iload_n (q := 2) (i := 2) rfl rfl dX11_slotsHeld_13 ?_
        refine go_zald (j := (0 + 1)) hX.i9 (by omega) (by first | decide | omega) rfl dX11_slotsHeld_14 ?_
        refine go_if_eq (tgt := 21) dX11_slotsHeld_15 (by decide) (fun h15 => ?_) (fun h15 => by exfalso; exact h15 e1)
        refine gn_inc (i := 2) (a := 0 + 1) (q := 1) rfl dX11_slotsHeld_21 (nle rfl) rfl ?_
        refine go_goto (tgt := 4) dX11_slotsHeld_24 (by decide) ?_
        refine go_L (L' := [some (.ref 0), some (.int (nI (0 + 1))), some (.int (nI ((0 + 1) + 1)))]) rfl ?_
        refine go_iload_n (q := 2) (i := 2) rfl rfl dX11_slotsHeld_4 ?_
        refine go_iconst (v := nI 3) (by decide) dX11_slotsHeld_5 ?_
        refine gn_ge (by omega) (by omega) (tgt := 27) dX11_slotsHeld_6 (by decide) (fun h6 => by exfalso; omega) (fun h6 => ?_)
        refine go_aload_n (q := 0) (i := 0) rfl rfl dX11_slotsHeld_9 ?_
        refine go_getR lf11_65 rfl hX.o hX.r9 dX11_slotsHeld_10 ?_
        refine go_iload_n (q := 2) (i := 2) rfl rfl dX11_slotsHeld_13 ?_
        refine go_zald (j := ((0 + 1) + 1)) hX.i9 (by omega) (by first | decide | omega) rfl dX11_slotsHeld_14 ?_
        refine go_if_eq (tgt := 21) dX11_slotsHeld_15 (by decide) (fun h15 => ?_) (fun h15 => by exfalso; exact h15 e2)
        refine gn_inc (i := 2) (a := (0 + 1) + 1) (q := 1) rfl dX11_slotsHeld_21 (nle rfl) rfl ?_
        refine go_goto (tgt := 4) dX11_slotsHeld_24 (by decide) ?_
        refine go_L (L' := [some (.ref 0), some (.int (nI (0 + 1))), some (.int (nI (((0 + 1) + 1) + 1)))]) rfl ?_
        refine go_iload_n (q := 2) (i := 2) rfl rfl dX11_slotsHeld_4 ?_
        refine go_iconst (v := nI 3) (by decide) dX11_slotsHeld_5 ?_
        refine gn_ge (by omega) (by omega) (tgt := 27) dX11_slotsHeld_6 (by decide) (fun h6 => ?_) (fun h6 => by exfalso; omega)
        refine go_iload_n (q := 1) (i := 1) rfl rfl dX11_slotsHeld_27 ?_
        refine go_iret rfl ⟨Nat.zero_le _, Nat.zero_le _⟩ dX11_slotsHeld_28 ?_
        refine ⟨?_, rfl⟩
        unfold shS
        rw [if_neg e0, if_pos e1, if_pos e2]
        rfl
      · skip
        refine go_iconst (v := nI 0) (by decide) dX11_slotsHeld_0 ?_
        refine go_istore_n (q := 1) (i := 1) rfl dX11_slotsHeld_1 (nle rfl) (nle rfl) ?_
        refine go_iconst (v := nI 0) (by decide) dX11_slotsHeld_2 ?_
        refine go_istore_n (q := 2) (i := 2) rfl dX11_slotsHeld_3 (nle rfl) (nle rfl) ?_
        refine go_L (L' := [some (.ref 0), some (.int (nI 0)), some (.int (nI 0))]) rfl ?_
        refine go_iload_n (q := 2) (i := 2) rfl rfl dX11_slotsHeld_4 ?_
        refine go_iconst (v := nI 3) (by decide) dX11_slotsHeld_5 ?_
        refine gn_ge (by omega) (by omega) (tgt := 27) dX11_slotsHeld_6 (by decide) (fun h6 => by exfalso; omega) (fun h6 => ?_)
        refine go_aload_n (q := 0) (i := 0) rfl rfl dX11_slotsHeld_9 ?_
        refine go_getR lf11_65 rfl hX.o hX.r9 dX11_slotsHeld_10 ?_
        refine go_iload_n (q := 2) (i := 2) rfl rfl dX11_slotsHeld_13 ?_
        refine go_zald (j := 0) hX.i9 (by omega) (by first | decide | omega) rfl dX11_slotsHeld_14 ?_
        refine go_if_eq (tgt := 21) dX11_slotsHeld_15 (by decide) (fun h15 => by exfalso; exact e0 h15) (fun h15 => ?_)
        refine gn_inc (i := 1) (a := 0) (q := 1) rfl dX11_slotsHeld_18 (nle rfl) rfl ?_
        refine gn_inc (i := 2) (a := 0) (q := 1) rfl dX11_slotsHeld_21 (nle rfl) rfl ?_
        refine go_goto (tgt := 4) dX11_slotsHeld_24 (by decide) ?_
        refine go_L (L' := [some (.ref 0), some (.int (nI (0 + 1))), some (.int (nI (0 + 1)))]) rfl ?_
        refine go_iload_n (q := 2) (i := 2) rfl rfl dX11_slotsHeld_4 ?_
        refine go_iconst (v := nI 3) (by decide) dX11_slotsHeld_5 ?_
        refine gn_ge (by omega) (by omega) (tgt := 27) dX11_slotsHeld_6 (by decide) (fun h6 => by exfalso; omega) (fun h6 => ?_)
        refine go_aload_n (q := 0) (i := 0) rfl rfl dX11_slotsHeld_9 ?_
        refine go_getR lf11_65 rfl hX.o hX.r9 dX11_slotsHeld_10 ?_
        refine go_iload_n (q := 2) (i := 2) rfl rfl dX11_slotsHeld_13 ?_
        refine go_zald (j := (0 + 1)) hX.i9 (by omega) (by first | decide | omega) rfl dX11_slotsHeld_14 ?_
        refine go_if_eq (tgt := 21) dX11_slotsHeld_15 (by decide) (fun h15 => ?_) (fun h15 => by exfalso; exact h15 e1)
        refine gn_inc (i := 2) (a := 0 + 1) (q := 1) rfl dX11_slotsHeld_21 (nle rfl) rfl ?_
        refine go_goto (tgt := 4) dX11_slotsHeld_24 (by decide) ?_
        refine go_L (L' := [some (.ref 0), some (.int (nI (0 + 1))), some (.int (nI ((0 + 1) + 1)))]) rfl ?_
        refine go_iload_n (q := 2) (i := 2) rfl rfl dX11_slotsHeld_4 ?_
        refine go_iconst (v := nI 3) (by decide) dX11_slotsHeld_5 ?_
        refine gn_ge (by omega) (by omega) (tgt := 27) dX11_slotsHeld_6 (by decide) (fun h6 => by exfalso; omega) (fun h6 => ?_)
        refine go_aload_n (q := 0) (i := 0) rfl rfl dX11_slotsHeld_9 ?_
        refine go_getR lf11_65 rfl hX.o hX.r9 dX11_slotsHeld_10 ?_
        refine go_iload_n (q := 2) (i := 2) rfl rfl dX11_slotsHeld_13 ?_
        refine go_zald (j := ((0 + 1) + 1)) hX.i9 (by omega) (by first | decide | omega) rfl dX11_slotsHeld_14 ?_
        refine go_if_eq (tgt := 21) dX11_slotsHeld_15 (by decide) (fun h15 => by exfalso; exact e2 h15) (fun h15 => ?_)
        refine gn_inc (i := 1) (a := 0 + 1) (q := 1) rfl dX11_slotsHeld_18 (nle rfl) rfl ?_
        refine gn_inc (i := 2) (a := (0 + 1) + 1) (q := 1) rfl dX11_slotsHeld_21 (nle rfl) rfl ?_
        refine go_goto (tgt := 4) dX11_slotsHeld_24 (by decide) ?_
        refine go_L (L' := [some (.ref 0), some (.int (nI ((0 + 1) + 1))), some (.int (nI (((0 + 1) + 1) + 1)))]) rfl ?_
        refine go_iload_n (q := 2) (i := 2) rfl rfl dX11_slotsHeld_4 ?_
        refine go_iconst (v := nI 3) (by decide) dX11_slotsHeld_5 ?_
        refine gn_ge (by omega) (by omega) (tgt := 27) dX11_slotsHeld_6 (by decide) (fun h6 => ?_) (fun h6 => by exfalso; omega)
        refine go_iload_n (q := 1) (i := 1) rfl rfl dX11_slotsHeld_27 ?_
        refine go_iret rfl ⟨Nat.zero_le _, Nat.zero_le _⟩ dX11_slotsHeld_28 ?_
        refine ⟨?_, rfl⟩
        unfold shS
        rw [if_neg e0, if_pos e1, if_neg e2]
        rfl
    · skip
      by_cases e2 : gI m 210 2 = 0
      · skip
        refine go_iconst (v := nI 0) (by decide) dX11_slotsHeld_0 ?_
        refine go_istore_n (q := 1) (i := 1) rfl dX11_slotsHeld_1 (nle rfl) (nle rfl) ?_
        refine go_iconst (v := nI 0) (by decide) dX11_slotsHeld_2 ?_
        refine go_istore_n (q := 2) (i := 2) rfl dX11_slotsHeld_3 (nle rfl) (nle rfl) ?_
        refine go_L (L' := [some (.ref 0), some (.int (nI 0)), some (.int (nI 0))]) rfl ?_
        refine go_iload_n (q := 2) (i := 2) rfl rfl dX11_slotsHeld_4 ?_
        refine go_iconst (v := nI 3) (by decide) dX11_slotsHeld_5 ?_
        refine gn_ge (by omega) (by omega) (tgt := 27) dX11_slotsHeld_6 (by decide) (fun h6 => by exfalso; omega) (fun h6 => ?_)
        refine go_aload_n (q := 0) (i := 0) rfl rfl dX11_slotsHeld_9 ?_
        refine go_getR lf11_65 rfl hX.o hX.r9 dX11_slotsHeld_10 ?_
        refine go_iload_n (q := 2) (i := 2) rfl rfl dX11_slotsHeld_13 ?_
        refine go_zald (j := 0) hX.i9 (by omega) (by first | decide | omega) rfl dX11_slotsHeld_14 ?_
        refine go_if_eq (tgt := 21) dX11_slotsHeld_15 (by decide) (fun h15 => by exfalso; exact e0 h15) (fun h15 => ?_)
        refine gn_inc (i := 1) (a := 0) (q := 1) rfl dX11_slotsHeld_18 (nle rfl) rfl ?_
        refine gn_inc (i := 2) (a := 0) (q := 1) rfl dX11_slotsHeld_21 (nle rfl) rfl ?_
        refine go_goto (tgt := 4) dX11_slotsHeld_24 (by decide) ?_
        refine go_L (L' := [some (.ref 0), some (.int (nI (0 + 1))), some (.int (nI (0 + 1)))]) rfl ?_
        refine go_iload_n (q := 2) (i := 2) rfl rfl dX11_slotsHeld_4 ?_
        refine go_iconst (v := nI 3) (by decide) dX11_slotsHeld_5 ?_
        refine gn_ge (by omega) (by omega) (tgt := 27) dX11_slotsHeld_6 (by decide) (fun h6 => by exfalso; omega) (fun h6 => ?_)
        refine go_aload_n (q := 0) (i := 0) rfl rfl dX11_slotsHeld_9 ?_
        refine go_getR lf11_65 rfl hX.o hX.r9 dX11_slotsHeld_10 ?_
        refine go_iload_n (q := 2) (i := 2) rfl rfl dX11_slotsHeld_13 ?_
        refine go_zald (j := (0 + 1)) hX.i9 (by omega) (by first | decide | omega) rfl dX11_slotsHeld_14 ?_
        refine go_if_eq (tgt := 21) dX11_slotsHeld_15 (by decide) (fun h15 => by exfalso; exact e1 h15) (fun h15 => ?_)
        refine gn_inc (i := 1) (a := 0 + 1) (q := 1) rfl dX11_slotsHeld_18 (nle rfl) rfl ?_
        refine gn_inc (i := 2) (a := 0 + 1) (q := 1) rfl dX11_slotsHeld_21 (nle rfl) rfl ?_
        refine go_goto (tgt := 4) dX11_slotsHeld_24 (by decide) ?_
        refine go_L (L' := [some (.ref 0), some (.int (nI ((0 + 1) + 1))), some (.int (nI ((0 + 1) + 1)))]) rfl ?_
        refine go_iload_n (q := 2) (i := 2) rfl rfl dX11_slotsHeld_4 ?_
        refine go_iconst (v := nI 3) (by decide) dX11_slotsHeld_5 ?_
        refine gn_ge (by omega) (by omega) (tgt := 27) dX11_slotsHeld_6 (by decide) (fun h6 => by exfalso; omega) (fun h6 => ?_)
        refine go_aload_n (q := 0) (i := 0) rfl rfl dX11_slotsHeld_9 ?_
        refine go_getR lf11_65 rfl hX.o hX.r9 dX11_slotsHeld_10 ?_
        refine go_iload_n (q := 2) (i := 2) rfl rfl dX11_slotsHeld_13 ?_
        refine go_zald (j := ((0 + 1) + 1)) hX.i9 (by omega) (by first | decide | omega) rfl dX11_slotsHeld_14 ?_
        refine go_if_eq (tgt := 21) dX11_slotsHeld_15 (by decide) (fun h15 => ?_) (fun h15 => by exfalso; exact h15 e2)
        refine gn_inc (i := 2) (a := (0 + 1) + 1) (q := 1) rfl dX11_slotsHeld_21 (nle rfl) rfl ?_
        refine go_goto (tgt := 4) dX11_slotsHeld_24 (by decide) ?_
        refine go_L (L' := [some (.ref 0), some (.int (nI ((0 + 1) + 1))), some (.int (nI (((0 + 1) + 1) + 1)))]) rfl ?_
        refine go_iload_n (q := 2) (i := 2) rfl rfl dX11_slotsHeld_4 ?_
        refine go_iconst (v := nI 3) (by decide) dX11_slotsHeld_5 ?_
        refine gn_ge (by omega) (by omega) (tgt := 27) dX11_slotsHeld_6 (by decide) (fun h6 => ?_) (fun h6 => by exfalso; omega)
        refine go_iload_n (q := 1) (i := 1) rfl rfl dX11_slotsHeld_27 ?_
        refine go_iret rfl ⟨Nat.zero_le _, Nat.zero_le _⟩ dX11_slotsHeld_28 ?_
        refine ⟨?_, rfl⟩
        unfold shS
        rw [if_neg e0, if_neg e1, if_pos e2]
        rfl
      · skip
        refine go_iconst (v := nI 0) (by decide) dX11_slotsHeld_0 ?_
        refine go_istore_n (q := 1) (i := 1) rfl dX11_slotsHeld_1 (nle rfl) (nle rfl) ?_
        refine go_iconst (v := nI 0) (by decide) dX11_slotsHeld_2 ?_
        refine go_istore_n (q := 2) (i := 2) rfl dX11_slotsHeld_3 (nle rfl) (nle rfl) ?_
        refine go_L (L' := [some (.ref 0), some (.int (nI 0)), some (.int (nI 0))]) rfl ?_
        refine go_iload_n (q := 2) (i := 2) rfl rfl dX11_slotsHeld_4 ?_
        refine go_iconst (v := nI 3) (by decide) dX11_slotsHeld_5 ?_
        refine gn_ge (by omega) (by omega) (tgt := 27) dX11_slotsHeld_6 (by decide) (fun h6 => by exfalso; omega) (fun h6 => ?_)
        refine go_aload_n (q := 0) (i := 0) rfl rfl dX11_slotsHeld_9 ?_
        refine go_getR lf11_65 rfl hX.o hX.r9 dX11_slotsHeld_10 ?_
        refine go_iload_n (q := 2) (i := 2) rfl rfl dX11_slotsHeld_13 ?_
        refine go_zald (j := 0) hX.i9 (by omega) (by first | decide | omega) rfl dX11_slotsHeld_14 ?_
        refine go_if_eq (tgt := 21) dX11_slotsHeld_15 (by decide) (fun h15 => by exfalso; exact e0 h15) (fun h15 => ?_)
        refine gn_inc (i := 1) (a := 0) (q := 1) rfl dX11_slotsHeld_18 (nle rfl) rfl ?_
        refine gn_inc (i := 2) (a := 0) (q := 1) rfl dX11_slotsHeld_21 (nle rfl) rfl ?_
        refine go_goto (tgt := 4) dX11_slotsHeld_24 (by decide) ?_
        refine go_L (L' := [some (.ref 0), some (.int (nI (0 + 1))), some (.int (nI (0 + 1)))]) rfl ?_
        refine go_iload_n (q := 2) (i := 2) rfl rfl dX11_slotsHeld_4 ?_
        refine go_iconst (v := nI 3) (by decide) dX11_slotsHeld_5 ?_
        refine gn_ge (by omega) (by omega) (tgt := 27) dX11_slotsHeld_6 (by decide) (fun h6 => by exfalso; omega) (fun h6 => ?_)
        refine go_aload_n (q := 0) (i := 0) rfl rfl dX11_slotsHeld_9 ?_
        refine go_getR lf11_65 rfl hX.o hX.r9 dX11_slotsHeld_10 ?_
        refine go_iload_n (q := 2) (i := 2) rfl rfl dX11_slotsHeld_13 ?_
        refine go_zald (j := (0 + 1)) hX.i9 (by omega) (by first | decide | omega) rfl dX11_slotsHeld_14 ?_
        refine go_if_eq (tgt := 21) dX11_slotsHeld_15 (by decide) (fun h15 => by exfalso; exact e1 h15) (fun h15 => ?_)
        refine gn_inc (i := 1) (a := 0 + 1) (q := 1) rfl dX11_slotsHeld_18 (nle rfl) rfl ?_
        refine gn_inc (i := 2) (a := 0 + 1) (q := 1) rfl dX11_slotsHeld_21 (nle rfl) rfl ?_
        refine go_goto (tgt := 4) dX11_slotsHeld_24 (by decide) ?_
        refine go_L (L' := [some (.ref 0), some (.int (nI ((0 + 1) + 1))), some (.int (nI ((0 + 1) + 1)))]) rfl ?_
        refine go_iload_n (q := 2) (i := 2) rfl rfl dX11_slotsHeld_4 ?_
        refine go_iconst (v := nI 3) (by decide) dX11_slotsHeld_5 ?_
        refine gn_ge (by omega) (by omega) (tgt := 27) dX11_slotsHeld_6 (by decide) (fun h6 => by exfalso; omega) (fun h6 => ?_)
        refine go_aload_n (q := 0) (i := 0) rfl rfl dX11_slotsHeld_9 ?_
        refine go_getR lf11_65 rfl hX.o hX.r9 dX11_slotsHeld_10 ?_
        refine go_iload_n (q := 2) (i := 2) rfl rfl dX11_slotsHeld_13 ?_
        refine go_zald (j := ((0 + 1) + 1)) hX.i9 (by omega) (by first | decide | omega) rfl dX11_slotsHeld_14 ?_
        refine go_if_eq (tgt := 21) dX11_slotsHeld_15 (by decide) (fun h15 => by exfalso; exact e2 h15) (fun h15 => ?_)
        refine gn_inc (i := 1) (a := (0 + 1) + 1) (q := 1) rfl dX11_slotsHeld_18 (nle rfl) rfl ?_
        refine gn_inc (i := 2) (a := (0 + 1) + 1) (q := 1) rfl dX11_slotsHeld_21 (nle rfl) rfl ?_
        refine go_goto (tgt := 4) dX11_slotsHeld_24 (by decide) ?_
        refine go_L (L' := [some (.ref 0), some (.int (nI (((0 + 1) + 1) + 1))), some (.int (nI (((0 + 1) + 1) + 1)))]) rfl ?_
        refine go_iload_n (q := 2) (i := 2) rfl rfl dX11_slotsHeld_4 ?_
        refine go_iconst (v := nI 3) (by decide) dX11_slotsHeld_5 ?_
        refine gn_ge (by omega) (by omega) (tgt := 27) dX11_slotsHeld_6 (by decide) (fun h6 => ?_) (fun h6 => by exfalso; omega)
        refine go_iload_n (q := 1) (i := 1) rfl rfl dX11_slotsHeld_27 ?_
        refine go_iret rfl ⟨Nat.zero_le _, Nat.zero_le _⟩ dX11_slotsHeld_28 ?_
        refine ⟨?_, rfl⟩
        unfold shS
        rw [if_neg e0, if_neg e1, if_neg e2]
        rfl
set_option maxRecDepth 100000 in
set_option maxHeartbeats 8000000 in
theorem ev_count {m : Me} {pl dr M : Nat} {P : Pl} {r : Nat → Int32} (hX : CX m.1 (gR m) pl dr) (hP : PlC m pl P) (ok : PlOk P) (hM : M < 2 ^ 18) (hr : RoOk P M r) (hc : CR P (gw m 15) r) {w : Int32} : Ev mX11_count [.ref 0, .int w] m (fun o m' => o = some (.int (coS P r (gI m 1 1) (gI m 27 2) (gI m 211 3) (shS (gI m 210)) w)) ∧ m' = m) := by
  refine ⟨plmX11_count, nle rfl, ?_⟩
  have hw8 := ok.1
  have hr5 := ok.2.1
  have hpd := hX.pd
  have hh4 := ok.2.2.1
  have hu6 := ok.2.2.2.1
  rcases in_c w (N := 17) (by decide) with hw | ⟨k, hk, rfl, hw⟩
  · skip
    refine go_iload_n (q := 1) (i := 1) rfl rfl dX11_count_0 ?_
    refine go_tswOut (tgt := 269) dX11_count_1 (in_out (by decide) hw) (by decide) ?_
    refine go_iconst (v := -1) (by decide) dX11_count_269 ?_
    refine go_iret rfl ⟨Nat.zero_le _, Nat.zero_le _⟩ dX11_count_270 ?_
    refine ⟨?_, rfl⟩
    simp only [coS, hw, reduceIte]
  · skip
    rcases (show k = 0 ∨ k = 1 ∨ k = 2 ∨ k = 3 ∨ k = 4 ∨ k = 5 ∨ k = 6 ∨ k = 7 ∨ k = 8 ∨ k = 9 ∨ k = 10 ∨ k = 11 ∨ k = 12 ∨ k = 13 ∨ k = 14 ∨ k = 15 ∨ k = 16 ∨ k = 17 by omega) with rfl | rfl | rfl | rfl | rfl | rfl | rfl | rfl | rfl | rfl | rfl | rfl | rfl | rfl | rfl | rfl | rfl | rfl
    · skip
      refine go_iload_n (q := 1) (i := 1) rfl rfl dX11_count_0 ?_
      refine go_tswIn (off := 87) (tgt := 88) dX11_count_1 (by decide) (by decide) (by decide) (by decide) ?_
      refine go_aload_n (q := 0) (i := 0) rfl rfl dX11_count_88 ?_
      refine go_getR lf11_86 rfl hX.o hX.rp dX11_count_89 ?_
      refine go_getI lf11_298 rfl hX.wp.o dX11_count_92 ?_
      rw [hP.wd]
      refine go_iret rfl ⟨Nat.zero_le _, Nat.zero_le _⟩ dX11_count_95 ?_
      refine ⟨?_, rfl⟩
      rw [coS_k (by decide)]
      rw [coK0]
    · skip
      refine go_iload_n (q := 1) (i := 1) rfl rfl dX11_count_0 ?_
      refine go_tswIn (off := 95) (tgt := 96) dX11_count_1 (by decide) (by decide) (by decide) (by decide) ?_
      refine go_aload_n (q := 0) (i := 0) rfl rfl dX11_count_96 ?_
      refine go_getR lf11_86 rfl hX.o hX.rp dX11_count_97 ?_
      refine go_getI lf11_301 rfl hX.wp.o dX11_count_100 ?_
      rw [hP.rw]
      refine go_iret rfl ⟨Nat.zero_le _, Nat.zero_le _⟩ dX11_count_103 ?_
      refine ⟨?_, rfl⟩
      rw [coS_k (by decide)]
      rw [coK1]
    · skip
      refine go_iload_n (q := 1) (i := 1) rfl rfl dX11_count_0 ?_
      refine go_tswIn (off := 103) (tgt := 104) dX11_count_1 (by decide) (by decide) (by decide) (by decide) ?_
      refine go_aload_n (q := 0) (i := 0) rfl rfl dX11_count_104 ?_
      refine go_getR lf11_86 rfl hX.o hX.rp dX11_count_105 ?_
      refine go_getI lf11_271 rfl hX.wp.o dX11_count_108 ?_
      rw [hP.hd]
      refine go_iret rfl ⟨Nat.zero_le _, Nat.zero_le _⟩ dX11_count_111 ?_
      refine ⟨?_, rfl⟩
      rw [coS_k (by decide)]
      rw [coK2]
    · skip
      refine go_iload_n (q := 1) (i := 1) rfl rfl dX11_count_0 ?_
      refine go_tswIn (off := 111) (tgt := 112) dX11_count_1 (by decide) (by decide) (by decide) (by decide) ?_
      refine go_aload_n (q := 0) (i := 0) rfl rfl dX11_count_112 ?_
      refine go_getR lf11_86 rfl hX.o hX.rp dX11_count_113 ?_
      refine go_getI lf11_304 rfl hX.wp.o dX11_count_116 ?_
      rw [hP.us]
      refine go_iret rfl ⟨Nat.zero_le _, Nat.zero_le _⟩ dX11_count_119 ?_
      refine ⟨?_, rfl⟩
      rw [coS_k (by decide)]
      rw [coK3]
    · skip
      refine go_iload_n (q := 1) (i := 1) rfl rfl dX11_count_0 ?_
      refine go_tswIn (off := 119) (tgt := 120) dX11_count_1 (by decide) (by decide) (by decide) (by decide) ?_
      refine go_aload_n (q := 0) (i := 0) rfl rfl dX11_count_120 ?_
      refine go_getR lf11_47 rfl hX.o hX.r5 dX11_count_121 ?_
      refine go_getI lf11_137 rfl hX.w5.o dX11_count_124 ?_
      rw [show gI m 15 0 = r 104 from (gw_h (m := m) (g := 15)).trans (hc.s (by omega) (by omega))]
      refine go_iret rfl ⟨Nat.zero_le _, Nat.zero_le _⟩ dX11_count_127 ?_
      refine ⟨?_, rfl⟩
      rw [coS_k (by decide)]
      rw [coK4]
    · skip
      refine go_iload_n (q := 1) (i := 1) rfl rfl dX11_count_0 ?_
      refine go_tswIn (off := 127) (tgt := 128) dX11_count_1 (by decide) (by decide) (by decide) (by decide) ?_
      refine go_aload_n (q := 0) (i := 0) rfl rfl dX11_count_128 ?_
      refine go_getR lf11_47 rfl hX.o hX.r5 dX11_count_129 ?_
      refine go_callV okmX1_fogOnLand lmX11_222 ⟨nle rfl, nle rfl⟩ hX.w5.o ⟨by decide, rfl⟩ (ev_fogOnLand hX.w5) npmX1_fogOnLand rfl (nle rfl) ⟨nle rfl, nle rfl⟩ dX11_count_132 ?_
      rintro _ mz ⟨rfl, hz⟩
      subst mz
      rw [hc.sm]
      refine go_c1 ?_
      refine go_iret rfl ⟨Nat.zero_le _, Nat.zero_le _⟩ dX11_count_135 ?_
      refine ⟨?_, rfl⟩
      rw [coS_k (by decide)]
      rw [coK5]
    · skip
      refine go_iload_n (q := 1) (i := 1) rfl rfl dX11_count_0 ?_
      refine go_tswIn (off := 135) (tgt := 136) dX11_count_1 (by decide) (by decide) (by decide) (by decide) ?_
      refine go_aload_n (q := 0) (i := 0) rfl rfl dX11_count_136 ?_
      refine go_getR lf11_47 rfl hX.o hX.r5 dX11_count_137 ?_
      refine go_getR lf11_156 rfl hX.w5.o hX.w5.r3 dX11_count_140 ?_
      refine go_callS okmX11_sum lmX11_307 ⟨nle rfl, nle rfl⟩ (ev_sum (by decide) hX.w5.i3) npmX11_sum rfl (nle rfl) ⟨nle rfl, nle rfl⟩ dX11_count_143 ?_
      rintro _ mz ⟨rfl, hz⟩
      subst mz
      rw [sm_c (g := fun k => r (80 + k)) 4 (fun k hk => (gw_s (m := m) (g := 15) hk).trans (hc.s (by omega) (by omega)))]
      refine go_c1 ?_
      refine go_iret rfl ⟨Nat.zero_le _, Nat.zero_le _⟩ dX11_count_146 ?_
      refine ⟨?_, rfl⟩
      rw [coS_k (by decide)]
      rw [coK6]
    · skip
      refine go_iload_n (q := 1) (i := 1) rfl rfl dX11_count_0 ?_
      refine go_tswIn (off := 146) (tgt := 147) dX11_count_1 (by decide) (by decide) (by decide) (by decide) ?_
      refine go_aload_n (q := 0) (i := 0) rfl rfl dX11_count_147 ?_
      refine go_getR lf11_47 rfl hX.o hX.r5 dX11_count_148 ?_
      refine go_getR lf11_169 rfl hX.w5.o hX.w5.r4 dX11_count_151 ?_
      refine go_callS okmX11_sum lmX11_307 ⟨nle rfl, nle rfl⟩ (ev_sum (by decide) hX.w5.i4) npmX11_sum rfl (nle rfl) ⟨nle rfl, nle rfl⟩ dX11_count_154 ?_
      rintro _ mz ⟨rfl, hz⟩
      subst mz
      rw [sm_c (g := fun k => r (84 + k)) 4 (fun k hk => (gw_d (m := m) (g := 15) hk).trans (hc.s (by omega) (by omega)))]
      refine go_c1 ?_
      refine go_iret rfl ⟨Nat.zero_le _, Nat.zero_le _⟩ dX11_count_157 ?_
      refine ⟨?_, rfl⟩
      rw [coS_k (by decide)]
      rw [coK7]
    · skip
      refine go_iload_n (q := 1) (i := 1) rfl rfl dX11_count_0 ?_
      refine go_tswIn (off := 157) (tgt := 158) dX11_count_1 (by decide) (by decide) (by decide) (by decide) ?_
      refine go_aload_n (q := 0) (i := 0) rfl rfl dX11_count_158 ?_
      refine go_getR lf11_12 rfl hX.o hX.r0 dX11_count_159 ?_
      refine go_getI lf11_97 rfl hX.w0.o dX11_count_162 ?_
      refine go_iret rfl ⟨Nat.zero_le _, Nat.zero_le _⟩ dX11_count_165 ?_
      refine ⟨?_, rfl⟩
      rw [coS_k (by decide)]
      rw [coK8]
    · skip
      refine go_iload_n (q := 1) (i := 1) rfl rfl dX11_count_0 ?_
      refine go_tswIn (off := 165) (tgt := 166) dX11_count_1 (by decide) (by decide) (by decide) (by decide) ?_
      refine go_aload_n (q := 0) (i := 0) rfl rfl dX11_count_166 ?_
      refine go_getR lf11_57 rfl hX.o hX.r7 dX11_count_167 ?_
      refine go_getI lf11_311 rfl hX.w7.o dX11_count_170 ?_
      refine go_iret rfl ⟨Nat.zero_le _, Nat.zero_le _⟩ dX11_count_173 ?_
      refine ⟨?_, rfl⟩
      rw [coS_k (by decide)]
      rw [coK9]
    · skip
      refine go_iload_n (q := 1) (i := 1) rfl rfl dX11_count_0 ?_
      refine go_tswIn (off := 173) (tgt := 174) dX11_count_1 (by decide) (by decide) (by decide) (by decide) ?_
      refine go_aload_n (q := 0) (i := 0) rfl rfl dX11_count_174 ?_
      refine go_getR lf11_72 rfl hX.o hX.r10 dX11_count_175 ?_
      refine go_getI lf11_278 rfl hX.w10.o dX11_count_178 ?_
      refine go_iret rfl ⟨Nat.zero_le _, Nat.zero_le _⟩ dX11_count_181 ?_
      refine ⟨?_, rfl⟩
      rw [coS_k (by decide)]
      rw [coK10]
    · skip
      refine go_iload_n (q := 1) (i := 1) rfl rfl dX11_count_0 ?_
      refine go_tswIn (off := 181) (tgt := 182) dX11_count_1 (by decide) (by decide) (by decide) (by decide) ?_
      refine go_aload_n (q := 0) (i := 0) rfl rfl dX11_count_182 ?_
      refine go_callV okmX11_slotsHeld lmX11_312 ⟨nle rfl, nle rfl⟩ hX.o ⟨by decide, rfl⟩ (ev_slotsHeld hX) npmX11_slotsHeld rfl (nle rfl) ⟨nle rfl, nle rfl⟩ dX11_count_183 ?_
      rintro _ mz ⟨rfl, hz⟩
      subst mz
      refine go_c1 ?_
      refine go_iret rfl ⟨Nat.zero_le _, Nat.zero_le _⟩ dX11_count_186 ?_
      refine ⟨?_, rfl⟩
      rw [coS_k (by decide)]
      rw [coK11]
    · skip
      refine go_iload_n (q := 1) (i := 1) rfl rfl dX11_count_0 ?_
      refine go_tswIn (off := 186) (tgt := 187) dX11_count_1 (by decide) (by decide) (by decide) (by decide) ?_
      refine go_aload_n (q := 0) (i := 0) rfl rfl dX11_count_187 ?_
      refine go_getR lf11_40 rfl hX.o hX.r4 dX11_count_188 ?_
      refine go_aload_n (q := 0) (i := 0) rfl rfl dX11_count_191 ?_
      refine go_getR lf11_86 rfl hX.o hX.rp dX11_count_192 ?_
      refine go_aload_n (q := 0) (i := 0) rfl rfl dX11_count_195 ?_
      refine go_getR lf11_86 rfl hX.o hX.rp dX11_count_196 ?_
      refine go_getI lf11_208 rfl hX.wp.o dX11_count_199 ?_
      rw [hP.se]
      refine go_aload_n (q := 0) (i := 0) rfl rfl dX11_count_202 ?_
      refine go_getR lf11_47 rfl hX.o hX.r5 dX11_count_203 ?_
      refine go_getI lf11_137 rfl hX.w5.o dX11_count_206 ?_
      rw [show gI m 15 0 = r 104 from (gw_h (m := m) (g := 15)).trans (hc.s (by omega) (by omega))]
      refine go_callV okmX8_isGust lmX11_315 ⟨nle rfl, nle rfl⟩ hX.w4.o ⟨by decide, rfl⟩ (ev_isGust hX.w4 hX.wp) npmX8_isGust rfl (nle rfl) ⟨nle rfl, nle rfl⟩ dX11_count_209 ?_
      rintro _ mz ⟨rfl, hz⟩
      subst mz
      rw [hP.gu]
      refine go_c1 ?_
      refine go_if_eq (tgt := 219) dX11_count_212 (by decide) (fun h212 => ?_) (fun h212 => ?_)
      · skip
        refine go_iconst (v := nI 0) (by decide) dX11_count_219 ?_
        refine go_iret rfl ⟨Nat.zero_le _, Nat.zero_le _⟩ dX11_count_220 ?_
        refine ⟨?_, rfl⟩
        rw [coS_k (by decide)]
        rw [coK12]
        rw [show guS _ _ _ = nI 0 from h212.trans nI_0.symm]
      · skip
        refine go_iconst (v := nI 1) (by decide) dX11_count_215 ?_
        refine go_goto (tgt := 220) dX11_count_216 (by decide) ?_
        refine go_iret rfl ⟨Nat.zero_le _, Nat.zero_le _⟩ dX11_count_220 ?_
        refine ⟨?_, rfl⟩
        rw [coS_k (by decide)]
        rw [coK12]
        rw [is_1 (gu01 _ _ _) (fun z => h212 (z.trans nI_0))]
    · skip
      refine go_iload_n (q := 1) (i := 1) rfl rfl dX11_count_0 ?_
      refine go_tswIn (off := 220) (tgt := 221) dX11_count_1 (by decide) (by decide) (by decide) (by decide) ?_
      refine go_aload_n (q := 0) (i := 0) rfl rfl dX11_count_221 ?_
      refine go_getR lf11_86 rfl hX.o hX.rp dX11_count_222 ?_
      refine go_getI lf11_319 rfl hX.wp.o dX11_count_225 ?_
      rw [hP.bk]
      refine go_iret rfl ⟨Nat.zero_le _, Nat.zero_le _⟩ dX11_count_228 ?_
      refine ⟨?_, rfl⟩
      rw [coS_k (by decide)]
      rw [coK13]
    · skip
      refine go_iload_n (q := 1) (i := 1) rfl rfl dX11_count_0 ?_
      refine go_tswIn (off := 228) (tgt := 229) dX11_count_1 (by decide) (by decide) (by decide) (by decide) ?_
      refine go_aload_n (q := 0) (i := 0) rfl rfl dX11_count_229 ?_
      refine go_getR lf11_47 rfl hX.o hX.r5 dX11_count_230 ?_
      refine go_bipush (v := nI 9) (by decide) dX11_count_233 ?_
      refine go_callV okmX1_cellsOf lmX11_159 ⟨nle rfl, nle rfl⟩ hX.w5.o ⟨by decide, rfl⟩ (ev_cellsOf hX.w5) npmX1_cellsOf rfl (nle rfl) ⟨nle rfl, nle rfl⟩ dX11_count_235 ?_
      rintro _ mz ⟨rfl, hz⟩
      subst mz
      rw [gw_ct ok hc (i1m _ (by decide))]
      refine go_c1 ?_
      refine go_iret rfl ⟨Nat.zero_le _, Nat.zero_le _⟩ dX11_count_238 ?_
      refine ⟨?_, rfl⟩
      rw [coS_k (by decide)]
      rw [coK14]
    · skip
      refine go_iload_n (q := 1) (i := 1) rfl rfl dX11_count_0 ?_
      refine go_tswIn (off := 238) (tgt := 239) dX11_count_1 (by decide) (by decide) (by decide) (by decide) ?_
      refine go_aload_n (q := 0) (i := 0) rfl rfl dX11_count_239 ?_
      refine go_getR lf11_47 rfl hX.o hX.r5 dX11_count_240 ?_
      refine go_callV okmX1_cellsWithoutFog lmX11_322 ⟨nle rfl, nle rfl⟩ hX.w5.o ⟨by decide, rfl⟩ (ev_dry hX.w5) npmX1_cellsWithoutFog rfl (nle rfl) ⟨nle rfl, nle rfl⟩ dX11_count_243 ?_
      rintro _ mz ⟨rfl, hz⟩
      subst mz
      rw [dry_eq ok hr hc]
      refine go_c1 ?_
      refine go_iret rfl ⟨Nat.zero_le _, Nat.zero_le _⟩ dX11_count_246 ?_
      refine ⟨?_, rfl⟩
      rw [coS_k (by decide)]
      rw [coK15]
    · skip
      refine go_iload_n (q := 1) (i := 1) rfl rfl dX11_count_0 ?_
      refine go_tswIn (off := 246) (tgt := 247) dX11_count_1 (by decide) (by decide) (by decide) (by decide) ?_
      refine go_aload_n (q := 0) (i := 0) rfl rfl dX11_count_247 ?_
      refine go_getR lf11_47 rfl hX.o hX.r5 dX11_count_248 ?_
      refine go_getI lf11_137 rfl hX.w5.o dX11_count_251 ?_
      rw [show gI m 15 0 = r 104 from (gw_h (m := m) (g := 15)).trans (hc.s (by omega) (by omega))]
      refine go_bipush (v := nI 24) (by decide) dX11_count_254 ?_
      refine go_idiv (by decide) dX11_count_256 ?_
      refine go_iret rfl ⟨Nat.zero_le _, Nat.zero_le _⟩ dX11_count_257 ?_
      refine ⟨?_, rfl⟩
      rw [coS_k (by decide)]
      rw [coK16]
    · skip
      refine go_iload_n (q := 1) (i := 1) rfl rfl dX11_count_0 ?_
      refine go_tswIn (off := 257) (tgt := 258) dX11_count_1 (by decide) (by decide) (by decide) (by decide) ?_
      refine go_aload_n (q := 0) (i := 0) rfl rfl dX11_count_258 ?_
      refine go_getR lf11_86 rfl hX.o hX.rp dX11_count_259 ?_
      refine go_getR lf11_153 rfl hX.wp.o hX.wp.r10 dX11_count_262 ?_
      refine go_callS okmX11_sum lmX11_307 ⟨nle rfl, nle rfl⟩ (ev_sum (by decide) hX.wp.i10) npmX11_sum rfl (nle rfl) ⟨nle rfl, nle rfl⟩ dX11_count_265 ?_
      rintro _ mz ⟨rfl, hz⟩
      subst mz
      rw [sm_c (g := P.ra) 4 (fun h hh => (hP.rs h hh).1), show (4 : Nat) = P.hd + (4 - P.hd) by omega, sm_z (4 - P.hd) (fun i a b => (ok.2.2.2.2.2.2.1 i a (by omega)).1)]
      refine go_c1 ?_
      refine go_iret rfl ⟨Nat.zero_le _, Nat.zero_le _⟩ dX11_count_268 ?_
      refine ⟨?_, rfl⟩
      rw [coS_k (by decide)]
      rw [coK17]
set_option maxRecDepth 100000 in
set_option maxHeartbeats 4000000 in
theorem ex_sumNow {m : Me} (hx : Wf12 m.1 (gR m)) {k : Nat} (hk : k ≤ 100) : Ev mX12_sumNow [.ref 274, .int (nI k)] m (fun o m' => o = some (.int (gI m 315 k + gI m 315 (k + 1) + gI m 315 (k + 2) + gI m 315 (k + 3))) ∧ m' = m) := by
  refine ⟨plmX12_sumNow, nle rfl, ?_⟩
  refine go_aload_n (q := 0) (i := 0) rfl rfl dX12_sumNow_0 ?_
  refine go_getR lf12_140 rfl hx.o hx.r58 dX12_sumNow_1 ?_
  refine go_iload_n (q := 1) (i := 1) rfl rfl dX12_sumNow_4 ?_
  refine go_iald (j := k) hx.i58 (by omega) (by first | decide | omega) rfl dX12_sumNow_5 ?_
  refine go_aload_n (q := 0) (i := 0) rfl rfl dX12_sumNow_6 ?_
  refine go_getR lf12_140 rfl hx.o hx.r58 dX12_sumNow_7 ?_
  refine go_iload_n (q := 1) (i := 1) rfl rfl dX12_sumNow_10 ?_
  refine go_iconst (v := nI 1) (by decide) dX12_sumNow_11 ?_
  refine gn_add dX12_sumNow_12 ?_
  refine go_iald (j := (k + 1)) hx.i58 (by omega) (by first | decide | omega) rfl dX12_sumNow_13 ?_
  refine go_iadd dX12_sumNow_14 ?_
  refine go_aload_n (q := 0) (i := 0) rfl rfl dX12_sumNow_15 ?_
  refine go_getR lf12_140 rfl hx.o hx.r58 dX12_sumNow_16 ?_
  refine go_iload_n (q := 1) (i := 1) rfl rfl dX12_sumNow_19 ?_
  refine go_iconst (v := nI 2) (by decide) dX12_sumNow_20 ?_
  refine gn_add dX12_sumNow_21 ?_
  refine go_iald (j := (k + 2)) hx.i58 (by omega) (by first | decide | omega) rfl dX12_sumNow_22 ?_
  refine go_iadd dX12_sumNow_23 ?_
  refine go_aload_n (q := 0) (i := 0) rfl rfl dX12_sumNow_24 ?_
  refine go_getR lf12_140 rfl hx.o hx.r58 dX12_sumNow_25 ?_
  refine go_iload_n (q := 1) (i := 1) rfl rfl dX12_sumNow_28 ?_
  refine go_iconst (v := nI 3) (by decide) dX12_sumNow_29 ?_
  refine gn_add dX12_sumNow_30 ?_
  refine go_iald (j := (k + 3)) hx.i58 (by omega) (by first | decide | omega) rfl dX12_sumNow_31 ?_
  refine go_iadd dX12_sumNow_32 ?_
  refine go_iret rfl ⟨Nat.zero_le _, Nat.zero_le _⟩ dX12_sumNow_33 ?_
  exact ⟨rfl, rfl⟩
set_option maxRecDepth 100000 in
set_option maxHeartbeats 4000000 in
theorem go_dry {m : Me} {P : Pl} {lv : Nat} (hx : Wf12 m.1 (gR m)) (hm : MdC m P lv) (ok : PlOk P) {w : Int32} : Go mX12_count (fun o m' => o = some (.int (nI (ctY (gI m 316) 0 P.wd P.rw))) ∧ m' = m) 249 [some (.ref 274), some (.int w), some (.int (nI 0)), none, none] [] m 0 0 := by
  have hlv := hm.lv
  have hw8 := ok.1
  have hr5 := ok.2.1
  have key : ∀ y, y ≤ P.rw → ∀ (x4 : Option Value), (True) → Go mX12_count (fun o m' => o = some (.int (nI (ctY (gI m 316) 0 P.wd P.rw))) ∧ m' = m) 251 [some (.ref 274), some (.int w), some (.int (nI (ctY (gI m 316) 0 P.wd y))), some (.int (nI y)), x4] [] m 0 0 := by
    refine loop_up P.rw ?_ ?_
    · intro x4 hI
      refine go_iload_n (q := 3) (i := 3) rfl rfl dX12_count_251 ?_
      refine go_aload_n (q := 0) (i := 0) rfl rfl dX12_count_252 ?_
      refine go_getR lf12_49 rfl hx.o hx.r24 dX12_count_253 ?_
      refine go_aload_n (q := 0) (i := 0) rfl rfl dX12_count_256 ?_
      refine go_getI lf12_260 rfl hx.o dX12_count_257 ?_
      rw [hm.li]
      refine go_iald (j := lv) hx.i24 (by omega) (by first | decide | omega) rfl dX12_count_260 ?_
      rw [hm.rw]
      refine gn_ge (by omega) (by omega) (tgt := 311) dX12_count_261 (by decide) (fun h261 => ?_) (fun h261 => by exfalso; omega)
      refine go_iload_n (q := 2) (i := 2) rfl rfl dX12_count_311 ?_
      refine go_iret rfl ⟨Nat.zero_le _, Nat.zero_le _⟩ dX12_count_312 ?_
      exact ⟨rfl, rfl⟩
    · intro y hi ih x4 hI
      have key2 : ∀ x, x ≤ P.wd → (True) → Go mX12_count (fun o m' => o = some (.int (nI (ctY (gI m 316) 0 P.wd P.rw))) ∧ m' = m) 267 [some (.ref 274), some (.int w), some (.int (nI (ctX (gI m 316) 0 y (ctY (gI m 316) 0 P.wd y) x))), some (.int (nI y)), some (.int (nI x))] [] m 0 0 := by
        refine loop_up P.wd ?_ ?_
        · intro hJ
          refine go_iload (i := 4) rfl dX12_count_267 ?_
          refine go_aload_n (q := 0) (i := 0) rfl rfl dX12_count_269 ?_
          refine go_getR lf12_46 rfl hx.o hx.r23 dX12_count_270 ?_
          refine go_aload_n (q := 0) (i := 0) rfl rfl dX12_count_273 ?_
          refine go_getI lf12_260 rfl hx.o dX12_count_274 ?_
          rw [hm.li]
          refine go_iald (j := lv) hx.i23 (by omega) (by first | decide | omega) rfl dX12_count_277 ?_
          rw [hm.wd]
          refine gn_ge (by omega) (by omega) (tgt := 305) dX12_count_278 (by decide) (fun h278 => ?_) (fun h278 => by exfalso; omega)
          refine gn_inc (i := 3) (a := y) (q := 1) rfl dX12_count_305 (nle rfl) rfl ?_
          refine go_goto (tgt := 251) dX12_count_308 (by decide) ?_
          exact ih _ (trivial)
        · intro x hj ih2 hJ
          refine go_iload (i := 4) rfl dX12_count_267 ?_
          refine go_aload_n (q := 0) (i := 0) rfl rfl dX12_count_269 ?_
          refine go_getR lf12_46 rfl hx.o hx.r23 dX12_count_270 ?_
          refine go_aload_n (q := 0) (i := 0) rfl rfl dX12_count_273 ?_
          refine go_getI lf12_260 rfl hx.o dX12_count_274 ?_
          rw [hm.li]
          refine go_iald (j := lv) hx.i23 (by omega) (by first | decide | omega) rfl dX12_count_277 ?_
          rw [hm.wd]
          refine gn_ge (by omega) (by omega) (tgt := 305) dX12_count_278 (by decide) (fun h278 => by exfalso; omega) (fun h278 => ?_)
          refine go_aload_n (q := 0) (i := 0) rfl rfl dX12_count_281 ?_
          refine go_getR lf12_143 rfl hx.o hx.r59 dX12_count_282 ?_
          refine go_bipush (v := nI 8) (by decide) dX12_count_285 ?_
          refine go_iload_n (q := 3) (i := 3) rfl rfl dX12_count_287 ?_
          refine gn_mul dX12_count_288 ?_
          refine go_iload (i := 4) rfl dX12_count_289 ?_
          refine gn_add dX12_count_291 ?_
          refine go_iald (j := ((8 * y) + x)) hx.i59 (by omega) (by first | decide | omega) rfl dX12_count_292 ?_
          refine go_if_ne (tgt := 299) dX12_count_293 (by decide) (fun h293 => ?_) (fun h293 => ?_)
          · skip
            refine gn_inc (i := 4) (a := x) (q := 1) rfl dX12_count_299 (nle rfl) rfl ?_
            refine go_goto (tgt := 267) dX12_count_302 (by decide) ?_
            rw [show ctX (gI m 316) 0 y (ctY (gI m 316) 0 P.wd y) (x + 1) = ctX (gI m 316) 0 y (ctY (gI m 316) 0 P.wd y) x from if_neg h293] at ih2
            exact ih2 trivial
          · skip
            refine gn_inc (i := 2) (a := ctX (gI m 316) 0 y (ctY (gI m 316) 0 P.wd y) x) (q := 1) rfl dX12_count_296 (nle rfl) rfl ?_
            refine gn_inc (i := 4) (a := x) (q := 1) rfl dX12_count_299 (nle rfl) rfl ?_
            refine go_goto (tgt := 267) dX12_count_302 (by decide) ?_
            rw [show ctX (gI m 316) 0 y (ctY (gI m 316) 0 P.wd y) (x + 1) = ctX (gI m 316) 0 y (ctY (gI m 316) 0 P.wd y) x + 1 from if_pos h293] at ih2
            exact ih2 trivial
      refine go_iload_n (q := 3) (i := 3) rfl rfl dX12_count_251 ?_
      refine go_aload_n (q := 0) (i := 0) rfl rfl dX12_count_252 ?_
      refine go_getR lf12_49 rfl hx.o hx.r24 dX12_count_253 ?_
      refine go_aload_n (q := 0) (i := 0) rfl rfl dX12_count_256 ?_
      refine go_getI lf12_260 rfl hx.o dX12_count_257 ?_
      rw [hm.li]
      refine go_iald (j := lv) hx.i24 (by omega) (by first | decide | omega) rfl dX12_count_260 ?_
      rw [hm.rw]
      refine gn_ge (by omega) (by omega) (tgt := 311) dX12_count_261 (by decide) (fun h261 => by exfalso; omega) (fun h261 => ?_)
      refine go_iconst (v := nI 0) (by decide) dX12_count_264 ?_
      refine go_istore (i := 4) dX12_count_265 (nle rfl) (nle rfl) ?_
      exact key2 0 (Nat.zero_le _) (trivial)
  refine go_iconst (v := nI 0) (by decide) dX12_count_249 ?_
  refine go_istore_n (q := 3) (i := 3) rfl dX12_count_250 (nle rfl) (nle rfl) ?_
  exact key 0 (Nat.zero_le _) _ (trivial)
set_option maxRecDepth 100000 in
set_option maxHeartbeats 8000000 in
theorem ex_count {m : Me} {P : Pl} {lv : Nat} (hx : Wf12 m.1 (gR m)) (hm : MdC m P lv) (ok : PlOk P) {w : Int32} : Ev mX12_count [.ref 274, .int w] m (fun o m' => o = some (.int (coS P (cp 105 (gI m 315) (gI m 316)) (gI m 274 2) (gI m 274 63) (gI m 274 68) (shS (gI m 326)) w)) ∧ Mo m m') := by
  refine ⟨plmX12_count, nle rfl, ?_⟩
  have hw8 := ok.1
  have hr5 := ok.2.1
  have hlv := hm.lv
  have hh4 := ok.2.2.1
  have hu6 := ok.2.2.2.1
  rcases in_c w (N := 17) (by decide) with hw | ⟨k, hk, rfl, hw⟩
  · skip
    refine go_aload_n (q := 0) (i := 0) rfl rfl dX12_count_0 ?_
    refine go_callV okmX12_copies lmX12_413 ⟨nle rfl, nle rfl⟩ hx.o ⟨by decide, rfl⟩ (ex_copies hx hm) npmX12_copies rfl (nle rfl) ⟨nle rfl, nle rfl⟩ dX12_count_1 ?_
    rintro _ m1 ⟨rfl, c1, e1, s1, l1, -⟩
    have hx := c1.wf hx
    have hm := c1.md hm
    refine go_c0 ?_
    refine go_iconst (v := nI 0) (by decide) dX12_count_4 ?_
    refine go_istore_n (q := 2) (i := 2) rfl dX12_count_5 (nle rfl) (nle rfl) ?_
    refine go_iload_n (q := 1) (i := 1) rfl rfl dX12_count_6 ?_
    refine go_tswOut (tgt := 363) dX12_count_7 (in_out (by decide) hw) (by decide) ?_
    refine go_iconst (v := -1) (by decide) dX12_count_363 ?_
    refine go_iret rfl ⟨Nat.zero_le _, Nat.zero_le _⟩ dX12_count_364 ?_
    refine ⟨?_, c1⟩
    simp only [coS, hw, reduceIte]
  · skip
    rcases (show k = 0 ∨ k = 1 ∨ k = 2 ∨ k = 3 ∨ k = 4 ∨ k = 5 ∨ k = 6 ∨ k = 7 ∨ k = 8 ∨ k = 9 ∨ k = 10 ∨ k = 11 ∨ k = 12 ∨ k = 13 ∨ k = 14 ∨ k = 15 ∨ k = 16 ∨ k = 17 by omega) with rfl | rfl | rfl | rfl | rfl | rfl | rfl | rfl | rfl | rfl | rfl | rfl | rfl | rfl | rfl | rfl | rfl | rfl
    · skip
      refine go_aload_n (q := 0) (i := 0) rfl rfl dX12_count_0 ?_
      refine go_callV okmX12_copies lmX12_413 ⟨nle rfl, nle rfl⟩ hx.o ⟨by decide, rfl⟩ (ex_copies hx hm) npmX12_copies rfl (nle rfl) ⟨nle rfl, nle rfl⟩ dX12_count_1 ?_
      rintro _ m1 ⟨rfl, c1, e1, s1, l1, -⟩
      have hx := c1.wf hx
      have hm := c1.md hm
      refine go_c0 ?_
      refine go_iconst (v := nI 0) (by decide) dX12_count_4 ?_
      refine go_istore_n (q := 2) (i := 2) rfl dX12_count_5 (nle rfl) (nle rfl) ?_
      refine go_iload_n (q := 1) (i := 1) rfl rfl dX12_count_6 ?_
      refine go_tswIn (off := 85) (tgt := 92) dX12_count_7 (by decide) (by decide) (by decide) (by decide) ?_
      refine go_aload_n (q := 0) (i := 0) rfl rfl dX12_count_92 ?_
      refine go_getR lf12_46 rfl hx.o hx.r23 dX12_count_93 ?_
      refine go_aload_n (q := 0) (i := 0) rfl rfl dX12_count_96 ?_
      refine go_getI lf12_260 rfl hx.o dX12_count_97 ?_
      rw [hm.li]
      refine go_iald (j := lv) hx.i23 (by omega) (by first | decide | omega) rfl dX12_count_100 ?_
      rw [hm.wd]
      refine go_iret rfl ⟨Nat.zero_le _, Nat.zero_le _⟩ dX12_count_101 ?_
      refine ⟨?_, c1⟩
      rw [coS_k (by decide)]
      rw [coK0]
    · skip
      refine go_aload_n (q := 0) (i := 0) rfl rfl dX12_count_0 ?_
      refine go_callV okmX12_copies lmX12_413 ⟨nle rfl, nle rfl⟩ hx.o ⟨by decide, rfl⟩ (ex_copies hx hm) npmX12_copies rfl (nle rfl) ⟨nle rfl, nle rfl⟩ dX12_count_1 ?_
      rintro _ m1 ⟨rfl, c1, e1, s1, l1, -⟩
      have hx := c1.wf hx
      have hm := c1.md hm
      refine go_c0 ?_
      refine go_iconst (v := nI 0) (by decide) dX12_count_4 ?_
      refine go_istore_n (q := 2) (i := 2) rfl dX12_count_5 (nle rfl) (nle rfl) ?_
      refine go_iload_n (q := 1) (i := 1) rfl rfl dX12_count_6 ?_
      refine go_tswIn (off := 95) (tgt := 102) dX12_count_7 (by decide) (by decide) (by decide) (by decide) ?_
      refine go_aload_n (q := 0) (i := 0) rfl rfl dX12_count_102 ?_
      refine go_getR lf12_49 rfl hx.o hx.r24 dX12_count_103 ?_
      refine go_aload_n (q := 0) (i := 0) rfl rfl dX12_count_106 ?_
      refine go_getI lf12_260 rfl hx.o dX12_count_107 ?_
      rw [hm.li]
      refine go_iald (j := lv) hx.i24 (by omega) (by first | decide | omega) rfl dX12_count_110 ?_
      rw [hm.rw]
      refine go_iret rfl ⟨Nat.zero_le _, Nat.zero_le _⟩ dX12_count_111 ?_
      refine ⟨?_, c1⟩
      rw [coS_k (by decide)]
      rw [coK1]
    · skip
      refine go_aload_n (q := 0) (i := 0) rfl rfl dX12_count_0 ?_
      refine go_callV okmX12_copies lmX12_413 ⟨nle rfl, nle rfl⟩ hx.o ⟨by decide, rfl⟩ (ex_copies hx hm) npmX12_copies rfl (nle rfl) ⟨nle rfl, nle rfl⟩ dX12_count_1 ?_
      rintro _ m1 ⟨rfl, c1, e1, s1, l1, -⟩
      have hx := c1.wf hx
      have hm := c1.md hm
      refine go_c0 ?_
      refine go_iconst (v := nI 0) (by decide) dX12_count_4 ?_
      refine go_istore_n (q := 2) (i := 2) rfl dX12_count_5 (nle rfl) (nle rfl) ?_
      refine go_iload_n (q := 1) (i := 1) rfl rfl dX12_count_6 ?_
      refine go_tswIn (off := 105) (tgt := 112) dX12_count_7 (by decide) (by decide) (by decide) (by decide) ?_
      refine go_aload_n (q := 0) (i := 0) rfl rfl dX12_count_112 ?_
      refine go_getR lf12_58 rfl hx.o hx.r27 dX12_count_113 ?_
      refine go_aload_n (q := 0) (i := 0) rfl rfl dX12_count_116 ?_
      refine go_getI lf12_260 rfl hx.o dX12_count_117 ?_
      rw [hm.li]
      refine go_iald (j := lv) hx.i27 (by omega) (by first | decide | omega) rfl dX12_count_120 ?_
      rw [hm.hd]
      refine go_iret rfl ⟨Nat.zero_le _, Nat.zero_le _⟩ dX12_count_121 ?_
      refine ⟨?_, c1⟩
      rw [coS_k (by decide)]
      rw [coK2]
    · skip
      refine go_aload_n (q := 0) (i := 0) rfl rfl dX12_count_0 ?_
      refine go_callV okmX12_copies lmX12_413 ⟨nle rfl, nle rfl⟩ hx.o ⟨by decide, rfl⟩ (ex_copies hx hm) npmX12_copies rfl (nle rfl) ⟨nle rfl, nle rfl⟩ dX12_count_1 ?_
      rintro _ m1 ⟨rfl, c1, e1, s1, l1, -⟩
      have hx := c1.wf hx
      have hm := c1.md hm
      refine go_c0 ?_
      refine go_iconst (v := nI 0) (by decide) dX12_count_4 ?_
      refine go_istore_n (q := 2) (i := 2) rfl dX12_count_5 (nle rfl) (nle rfl) ?_
      refine go_iload_n (q := 1) (i := 1) rfl rfl dX12_count_6 ?_
      refine go_tswIn (off := 115) (tgt := 122) dX12_count_7 (by decide) (by decide) (by decide) (by decide) ?_
      refine go_aload_n (q := 0) (i := 0) rfl rfl dX12_count_122 ?_
      refine go_getR lf12_67 rfl hx.o hx.r30 dX12_count_123 ?_
      refine go_aload_n (q := 0) (i := 0) rfl rfl dX12_count_126 ?_
      refine go_getI lf12_260 rfl hx.o dX12_count_127 ?_
      rw [hm.li]
      refine go_iald (j := lv) hx.i30 (by omega) (by first | decide | omega) rfl dX12_count_130 ?_
      rw [hm.us]
      refine go_iret rfl ⟨Nat.zero_le _, Nat.zero_le _⟩ dX12_count_131 ?_
      refine ⟨?_, c1⟩
      rw [coS_k (by decide)]
      rw [coK3]
    · skip
      refine go_aload_n (q := 0) (i := 0) rfl rfl dX12_count_0 ?_
      refine go_callV okmX12_copies lmX12_413 ⟨nle rfl, nle rfl⟩ hx.o ⟨by decide, rfl⟩ (ex_copies hx hm) npmX12_copies rfl (nle rfl) ⟨nle rfl, nle rfl⟩ dX12_count_1 ?_
      rintro _ m1 ⟨rfl, c1, e1, s1, l1, -⟩
      have hx := c1.wf hx
      have hm := c1.md hm
      refine go_c0 ?_
      refine go_iconst (v := nI 0) (by decide) dX12_count_4 ?_
      refine go_istore_n (q := 2) (i := 2) rfl dX12_count_5 (nle rfl) (nle rfl) ?_
      refine go_iload_n (q := 1) (i := 1) rfl rfl dX12_count_6 ?_
      refine go_tswIn (off := 125) (tgt := 132) dX12_count_7 (by decide) (by decide) (by decide) (by decide) ?_
      refine go_aload_n (q := 0) (i := 0) rfl rfl dX12_count_132 ?_
      refine go_getR lf12_143 rfl hx.o hx.r59 dX12_count_133 ?_
      refine go_bipush (v := nI 104) (by decide) dX12_count_136 ?_
      refine go_iald (j := 104) hx.i59 (by omega) (by first | decide | omega) rfl dX12_count_138 ?_
      rw [e1]
      refine go_iret rfl ⟨Nat.zero_le _, Nat.zero_le _⟩ dX12_count_139 ?_
      refine ⟨?_, c1⟩
      rw [coS_k (by decide)]
      rw [coK4]
    · skip
      refine go_aload_n (q := 0) (i := 0) rfl rfl dX12_count_0 ?_
      refine go_callV okmX12_copies lmX12_413 ⟨nle rfl, nle rfl⟩ hx.o ⟨by decide, rfl⟩ (ex_copies hx hm) npmX12_copies rfl (nle rfl) ⟨nle rfl, nle rfl⟩ dX12_count_1 ?_
      rintro _ m1 ⟨rfl, c1, e1, s1, l1, -⟩
      have hx := c1.wf hx
      have hm := c1.md hm
      refine go_c0 ?_
      refine go_iconst (v := nI 0) (by decide) dX12_count_4 ?_
      refine go_istore_n (q := 2) (i := 2) rfl dX12_count_5 (nle rfl) (nle rfl) ?_
      refine go_iload_n (q := 1) (i := 1) rfl rfl dX12_count_6 ?_
      refine go_tswIn (off := 133) (tgt := 140) dX12_count_7 (by decide) (by decide) (by decide) (by decide) ?_
      refine go_aload_n (q := 0) (i := 0) rfl rfl dX12_count_140 ?_
      refine go_callV okmX12_fogAll lmX12_444 ⟨nle rfl, nle rfl⟩ hx.o ⟨by decide, rfl⟩ (ex_fogAll hx) npmX12_fogAll rfl (nle rfl) ⟨nle rfl, nle rfl⟩ dX12_count_141 ?_
      rintro _ mz ⟨rfl, hz⟩
      subst mz
      rw [e1]
      refine go_c1 ?_
      refine go_iret rfl ⟨Nat.zero_le _, Nat.zero_le _⟩ dX12_count_144 ?_
      refine ⟨?_, c1⟩
      rw [coS_k (by decide)]
      rw [coK5]
    · skip
      refine go_aload_n (q := 0) (i := 0) rfl rfl dX12_count_0 ?_
      refine go_callV okmX12_copies lmX12_413 ⟨nle rfl, nle rfl⟩ hx.o ⟨by decide, rfl⟩ (ex_copies hx hm) npmX12_copies rfl (nle rfl) ⟨nle rfl, nle rfl⟩ dX12_count_1 ?_
      rintro _ m1 ⟨rfl, c1, e1, s1, l1, -⟩
      have hx := c1.wf hx
      have hm := c1.md hm
      refine go_c0 ?_
      refine go_iconst (v := nI 0) (by decide) dX12_count_4 ?_
      refine go_istore_n (q := 2) (i := 2) rfl dX12_count_5 (nle rfl) (nle rfl) ?_
      refine go_iload_n (q := 1) (i := 1) rfl rfl dX12_count_6 ?_
      refine go_tswIn (off := 138) (tgt := 145) dX12_count_7 (by decide) (by decide) (by decide) (by decide) ?_
      refine go_aload_n (q := 0) (i := 0) rfl rfl dX12_count_145 ?_
      refine go_bipush (v := nI 80) (by decide) dX12_count_146 ?_
      refine go_callV okmX12_sumNow lmX12_485 ⟨nle rfl, nle rfl⟩ hx.o ⟨by decide, rfl⟩ (ex_sumNow hx (by decide)) npmX12_sumNow rfl (nle rfl) ⟨nle rfl, nle rfl⟩ dX12_count_148 ?_
      rintro _ mz ⟨rfl, hz⟩
      subst mz
      rw [c1.1.at (show ¬ _ by omega), show gI m 315 80 = _ from now_R (by decide), show gI m 315 (80 + 1) = _ from now_R (by decide), show gI m 315 (80 + 2) = _ from now_R (by decide), show gI m 315 (80 + 3) = _ from now_R (by decide)]
      refine go_c1 ?_
      refine go_iret rfl ⟨Nat.zero_le _, Nat.zero_le _⟩ dX12_count_151 ?_
      refine ⟨?_, c1⟩
      rw [coS_k (by decide)]
      rw [coK6, sm_4]
    · skip
      refine go_aload_n (q := 0) (i := 0) rfl rfl dX12_count_0 ?_
      refine go_callV okmX12_copies lmX12_413 ⟨nle rfl, nle rfl⟩ hx.o ⟨by decide, rfl⟩ (ex_copies hx hm) npmX12_copies rfl (nle rfl) ⟨nle rfl, nle rfl⟩ dX12_count_1 ?_
      rintro _ m1 ⟨rfl, c1, e1, s1, l1, -⟩
      have hx := c1.wf hx
      have hm := c1.md hm
      refine go_c0 ?_
      refine go_iconst (v := nI 0) (by decide) dX12_count_4 ?_
      refine go_istore_n (q := 2) (i := 2) rfl dX12_count_5 (nle rfl) (nle rfl) ?_
      refine go_iload_n (q := 1) (i := 1) rfl rfl dX12_count_6 ?_
      refine go_tswIn (off := 145) (tgt := 152) dX12_count_7 (by decide) (by decide) (by decide) (by decide) ?_
      refine go_aload_n (q := 0) (i := 0) rfl rfl dX12_count_152 ?_
      refine go_bipush (v := nI 84) (by decide) dX12_count_153 ?_
      refine go_callV okmX12_sumNow lmX12_485 ⟨nle rfl, nle rfl⟩ hx.o ⟨by decide, rfl⟩ (ex_sumNow hx (by decide)) npmX12_sumNow rfl (nle rfl) ⟨nle rfl, nle rfl⟩ dX12_count_155 ?_
      rintro _ mz ⟨rfl, hz⟩
      subst mz
      rw [c1.1.at (show ¬ _ by omega), show gI m 315 84 = _ from now_R (by decide), show gI m 315 (84 + 1) = _ from now_R (by decide), show gI m 315 (84 + 2) = _ from now_R (by decide), show gI m 315 (84 + 3) = _ from now_R (by decide)]
      refine go_c1 ?_
      refine go_iret rfl ⟨Nat.zero_le _, Nat.zero_le _⟩ dX12_count_158 ?_
      refine ⟨?_, c1⟩
      rw [coS_k (by decide)]
      rw [coK7, sm_4]
    · skip
      refine go_aload_n (q := 0) (i := 0) rfl rfl dX12_count_0 ?_
      refine go_callV okmX12_copies lmX12_413 ⟨nle rfl, nle rfl⟩ hx.o ⟨by decide, rfl⟩ (ex_copies hx hm) npmX12_copies rfl (nle rfl) ⟨nle rfl, nle rfl⟩ dX12_count_1 ?_
      rintro _ m1 ⟨rfl, c1, e1, s1, l1, -⟩
      have hx := c1.wf hx
      have hm := c1.md hm
      refine go_c0 ?_
      refine go_iconst (v := nI 0) (by decide) dX12_count_4 ?_
      refine go_istore_n (q := 2) (i := 2) rfl dX12_count_5 (nle rfl) (nle rfl) ?_
      refine go_iload_n (q := 1) (i := 1) rfl rfl dX12_count_6 ?_
      refine go_tswIn (off := 152) (tgt := 159) dX12_count_7 (by decide) (by decide) (by decide) (by decide) ?_
      refine go_aload_n (q := 0) (i := 0) rfl rfl dX12_count_159 ?_
      refine go_getI lf12_193 rfl hx.o dX12_count_160 ?_
      rw [c1.2 2 (by decide) (by decide) (by decide)]
      refine go_iret rfl ⟨Nat.zero_le _, Nat.zero_le _⟩ dX12_count_163 ?_
      refine ⟨?_, c1⟩
      rw [coS_k (by decide)]
      rw [coK8]
    · skip
      refine go_aload_n (q := 0) (i := 0) rfl rfl dX12_count_0 ?_
      refine go_callV okmX12_copies lmX12_413 ⟨nle rfl, nle rfl⟩ hx.o ⟨by decide, rfl⟩ (ex_copies hx hm) npmX12_copies rfl (nle rfl) ⟨nle rfl, nle rfl⟩ dX12_count_1 ?_
      rintro _ m1 ⟨rfl, c1, e1, s1, l1, -⟩
      have hx := c1.wf hx
      have hm := c1.md hm
      refine go_c0 ?_
      refine go_iconst (v := nI 0) (by decide) dX12_count_4 ?_
      refine go_istore_n (q := 2) (i := 2) rfl dX12_count_5 (nle rfl) (nle rfl) ?_
      refine go_iload_n (q := 1) (i := 1) rfl rfl dX12_count_6 ?_
      refine go_tswIn (off := 157) (tgt := 164) dX12_count_7 (by decide) (by decide) (by decide) (by decide) ?_
      refine go_aload_n (q := 0) (i := 0) rfl rfl dX12_count_164 ?_
      refine go_getI lf12_286 rfl hx.o dX12_count_165 ?_
      rw [c1.2 63 (by decide) (by decide) (by decide)]
      refine go_iret rfl ⟨Nat.zero_le _, Nat.zero_le _⟩ dX12_count_168 ?_
      refine ⟨?_, c1⟩
      rw [coS_k (by decide)]
      rw [coK9]
    · skip
      refine go_aload_n (q := 0) (i := 0) rfl rfl dX12_count_0 ?_
      refine go_callV okmX12_copies lmX12_413 ⟨nle rfl, nle rfl⟩ hx.o ⟨by decide, rfl⟩ (ex_copies hx hm) npmX12_copies rfl (nle rfl) ⟨nle rfl, nle rfl⟩ dX12_count_1 ?_
      rintro _ m1 ⟨rfl, c1, e1, s1, l1, -⟩
      have hx := c1.wf hx
      have hm := c1.md hm
      refine go_c0 ?_
      refine go_iconst (v := nI 0) (by decide) dX12_count_4 ?_
      refine go_istore_n (q := 2) (i := 2) rfl dX12_count_5 (nle rfl) (nle rfl) ?_
      refine go_iload_n (q := 1) (i := 1) rfl rfl dX12_count_6 ?_
      refine go_tswIn (off := 162) (tgt := 169) dX12_count_7 (by decide) (by decide) (by decide) (by decide) ?_
      refine go_aload_n (q := 0) (i := 0) rfl rfl dX12_count_169 ?_
      refine go_getI lf12_289 rfl hx.o dX12_count_170 ?_
      rw [c1.2 68 (by decide) (by decide) (by decide)]
      refine go_iret rfl ⟨Nat.zero_le _, Nat.zero_le _⟩ dX12_count_173 ?_
      refine ⟨?_, c1⟩
      rw [coS_k (by decide)]
      rw [coK10]
    · skip
      by_cases u0 : gI m 326 0 = 0
      · skip
        by_cases u1 : gI m 326 1 = 0
        · skip
          by_cases u2 : gI m 326 2 = 0
          · skip
            refine go_aload_n (q := 0) (i := 0) rfl rfl dX12_count_0 ?_
            refine go_callV okmX12_copies lmX12_413 ⟨nle rfl, nle rfl⟩ hx.o ⟨by decide, rfl⟩ (ex_copies hx hm) npmX12_copies rfl (nle rfl) ⟨nle rfl, nle rfl⟩ dX12_count_1 ?_
            rintro _ m1 ⟨rfl, c1, e1, s1, l1, -⟩
            have hx := c1.wf hx
            have hm := c1.md hm
            refine go_c0 ?_
            refine go_iconst (v := nI 0) (by decide) dX12_count_4 ?_
            refine go_istore_n (q := 2) (i := 2) rfl dX12_count_5 (nle rfl) (nle rfl) ?_
            refine go_iload_n (q := 1) (i := 1) rfl rfl dX12_count_6 ?_
            refine go_tswIn (off := 167) (tgt := 174) dX12_count_7 (by decide) (by decide) (by decide) (by decide) ?_
            refine go_L (L' := [some (.ref 274), some (.int (nI 11)), some (.int (nI 0)), none, none]) rfl ?_
            refine go_aload_n (q := 0) (i := 0) rfl rfl dX12_count_174 ?_
            refine go_getR lf12_173 rfl hx.o hx.r73 dX12_count_175 ?_
            refine go_iconst (v := nI 0) (by decide) dX12_count_178 ?_
            refine go_zald (j := 0) hx.i73 (by omega) (by first | decide | omega) rfl dX12_count_179 ?_
            rw [c1.1.at (show ¬ _ by omega)]
            refine go_if_eq (tgt := 187) dX12_count_180 (by decide) (fun h180 => ?_) (fun h180 => by exfalso; exact h180 u0)
            refine go_iconst (v := nI 0) (by decide) dX12_count_187 ?_
            refine go_aload_n (q := 0) (i := 0) rfl rfl dX12_count_188 ?_
            refine go_getR lf12_173 rfl hx.o hx.r73 dX12_count_189 ?_
            refine go_iconst (v := nI 1) (by decide) dX12_count_192 ?_
            refine go_zald (j := 1) hx.i73 (by omega) (by first | decide | omega) rfl dX12_count_193 ?_
            rw [c1.1.at (show ¬ _ by omega)]
            refine go_if_eq (tgt := 201) dX12_count_194 (by decide) (fun h194 => ?_) (fun h194 => by exfalso; exact h194 u1)
            refine go_iconst (v := nI 0) (by decide) dX12_count_201 ?_
            refine gn_add dX12_count_202 ?_
            refine go_aload_n (q := 0) (i := 0) rfl rfl dX12_count_203 ?_
            refine go_getR lf12_173 rfl hx.o hx.r73 dX12_count_204 ?_
            refine go_iconst (v := nI 2) (by decide) dX12_count_207 ?_
            refine go_zald (j := 2) hx.i73 (by omega) (by first | decide | omega) rfl dX12_count_208 ?_
            rw [c1.1.at (show ¬ _ by omega)]
            refine go_if_eq (tgt := 216) dX12_count_209 (by decide) (fun h209 => ?_) (fun h209 => by exfalso; exact h209 u2)
            refine go_iconst (v := nI 0) (by decide) dX12_count_216 ?_
            refine gn_add dX12_count_217 ?_
            refine go_iret rfl ⟨Nat.zero_le _, Nat.zero_le _⟩ dX12_count_218 ?_
            refine ⟨?_, c1⟩
            rw [coS_k (by decide)]
            rw [coK11]
            unfold shS
            rw [if_pos u0, if_pos u1, if_pos u2]
            rfl
          · skip
            refine go_aload_n (q := 0) (i := 0) rfl rfl dX12_count_0 ?_
            refine go_callV okmX12_copies lmX12_413 ⟨nle rfl, nle rfl⟩ hx.o ⟨by decide, rfl⟩ (ex_copies hx hm) npmX12_copies rfl (nle rfl) ⟨nle rfl, nle rfl⟩ dX12_count_1 ?_
            rintro _ m1 ⟨rfl, c1, e1, s1, l1, -⟩
            have hx := c1.wf hx
            have hm := c1.md hm
            refine go_c0 ?_
            refine go_iconst (v := nI 0) (by decide) dX12_count_4 ?_
            refine go_istore_n (q := 2) (i := 2) rfl dX12_count_5 (nle rfl) (nle rfl) ?_
            refine go_iload_n (q := 1) (i := 1) rfl rfl dX12_count_6 ?_
            refine go_tswIn (off := 167) (tgt := 174) dX12_count_7 (by decide) (by decide) (by decide) (by decide) ?_
            refine go_L (L' := [some (.ref 274), some (.int (nI 11)), some (.int (nI 0)), none, none]) rfl ?_
            refine go_aload_n (q := 0) (i := 0) rfl rfl dX12_count_174 ?_
            refine go_getR lf12_173 rfl hx.o hx.r73 dX12_count_175 ?_
            refine go_iconst (v := nI 0) (by decide) dX12_count_178 ?_
            refine go_zald (j := 0) hx.i73 (by omega) (by first | decide | omega) rfl dX12_count_179 ?_
            rw [c1.1.at (show ¬ _ by omega)]
            refine go_if_eq (tgt := 187) dX12_count_180 (by decide) (fun h180 => ?_) (fun h180 => by exfalso; exact h180 u0)
            refine go_iconst (v := nI 0) (by decide) dX12_count_187 ?_
            refine go_aload_n (q := 0) (i := 0) rfl rfl dX12_count_188 ?_
            refine go_getR lf12_173 rfl hx.o hx.r73 dX12_count_189 ?_
            refine go_iconst (v := nI 1) (by decide) dX12_count_192 ?_
            refine go_zald (j := 1) hx.i73 (by omega) (by first | decide | omega) rfl dX12_count_193 ?_
            rw [c1.1.at (show ¬ _ by omega)]
            refine go_if_eq (tgt := 201) dX12_count_194 (by decide) (fun h194 => ?_) (fun h194 => by exfalso; exact h194 u1)
            refine go_iconst (v := nI 0) (by decide) dX12_count_201 ?_
            refine gn_add dX12_count_202 ?_
            refine go_aload_n (q := 0) (i := 0) rfl rfl dX12_count_203 ?_
            refine go_getR lf12_173 rfl hx.o hx.r73 dX12_count_204 ?_
            refine go_iconst (v := nI 2) (by decide) dX12_count_207 ?_
            refine go_zald (j := 2) hx.i73 (by omega) (by first | decide | omega) rfl dX12_count_208 ?_
            rw [c1.1.at (show ¬ _ by omega)]
            refine go_if_eq (tgt := 216) dX12_count_209 (by decide) (fun h209 => by exfalso; exact u2 h209) (fun h209 => ?_)
            refine go_iconst (v := nI 1) (by decide) dX12_count_212 ?_
            refine go_goto (tgt := 217) dX12_count_213 (by decide) ?_
            refine gn_add dX12_count_217 ?_
            refine go_iret rfl ⟨Nat.zero_le _, Nat.zero_le _⟩ dX12_count_218 ?_
            refine ⟨?_, c1⟩
            rw [coS_k (by decide)]
            rw [coK11]
            unfold shS
            rw [if_pos u0, if_pos u1, if_neg u2]
            rfl
        · skip
          by_cases u2 : gI m 326 2 = 0
          · skip
            refine go_aload_n (q := 0) (i := 0) rfl rfl dX12_count_0 ?_
            refine go_callV okmX12_copies lmX12_413 ⟨nle rfl, nle rfl⟩ hx.o ⟨by decide, rfl⟩ (ex_copies hx hm) npmX12_copies rfl (nle rfl) ⟨nle rfl, nle rfl⟩ dX12_count_1 ?_
            rintro _ m1 ⟨rfl, c1, e1, s1, l1, -⟩
            have hx := c1.wf hx
            have hm := c1.md hm
            refine go_c0 ?_
            refine go_iconst (v := nI 0) (by decide) dX12_count_4 ?_
            refine go_istore_n (q := 2) (i := 2) rfl dX12_count_5 (nle rfl) (nle rfl) ?_
            refine go_iload_n (q := 1) (i := 1) rfl rfl dX12_count_6 ?_
            refine go_tswIn (off := 167) (tgt := 174) dX12_count_7 (by decide) (by decide) (by decide) (by decide) ?_
            refine go_L (L' := [some (.ref 274), some (.int (nI 11)), some (.int (nI 0)), none, none]) rfl ?_
            refine go_aload_n (q := 0) (i := 0) rfl rfl dX12_count_174 ?_
            refine go_getR lf12_173 rfl hx.o hx.r73 dX12_count_175 ?_
            refine go_iconst (v := nI 0) (by decide) dX12_count_178 ?_
            refine go_zald (j := 0) hx.i73 (by omega) (by first | decide | omega) rfl dX12_count_179 ?_
            rw [c1.1.at (show ¬ _ by omega)]
            refine go_if_eq (tgt := 187) dX12_count_180 (by decide) (fun h180 => ?_) (fun h180 => by exfalso; exact h180 u0)
            refine go_iconst (v := nI 0) (by decide) dX12_count_187 ?_
            refine go_aload_n (q := 0) (i := 0) rfl rfl dX12_count_188 ?_
            refine go_getR lf12_173 rfl hx.o hx.r73 dX12_count_189 ?_
            refine go_iconst (v := nI 1) (by decide) dX12_count_192 ?_
            refine go_zald (j := 1) hx.i73 (by omega) (by first | decide | omega) rfl dX12_count_193 ?_
            rw [c1.1.at (show ¬ _ by omega)]
            refine go_if_eq (tgt := 201) dX12_count_194 (by decide) (fun h194 => by exfalso; exact u1 h194) (fun h194 => ?_)
            refine go_iconst (v := nI 1) (by decide) dX12_count_197 ?_
            refine go_goto (tgt := 202) dX12_count_198 (by decide) ?_
            refine gn_add dX12_count_202 ?_
            refine go_aload_n (q := 0) (i := 0) rfl rfl dX12_count_203 ?_
            refine go_getR lf12_173 rfl hx.o hx.r73 dX12_count_204 ?_
            refine go_iconst (v := nI 2) (by decide) dX12_count_207 ?_
            refine go_zald (j := 2) hx.i73 (by omega) (by first | decide | omega) rfl dX12_count_208 ?_
            rw [c1.1.at (show ¬ _ by omega)]
            refine go_if_eq (tgt := 216) dX12_count_209 (by decide) (fun h209 => ?_) (fun h209 => by exfalso; exact h209 u2)
            refine go_iconst (v := nI 0) (by decide) dX12_count_216 ?_
            refine gn_add dX12_count_217 ?_
            refine go_iret rfl ⟨Nat.zero_le _, Nat.zero_le _⟩ dX12_count_218 ?_
            refine ⟨?_, c1⟩
            rw [coS_k (by decide)]
            rw [coK11]
            unfold shS
            rw [if_pos u0, if_neg u1, if_pos u2]
            rfl
          · skip
            refine go_aload_n (q := 0) (i := 0) rfl rfl dX12_count_0 ?_
            refine go_callV okmX12_copies lmX12_413 ⟨nle rfl, nle rfl⟩ hx.o ⟨by decide, rfl⟩ (ex_copies hx hm) npmX12_copies rfl (nle rfl) ⟨nle rfl, nle rfl⟩ dX12_count_1 ?_
            rintro _ m1 ⟨rfl, c1, e1, s1, l1, -⟩
            have hx := c1.wf hx
            have hm := c1.md hm
            refine go_c0 ?_
            refine go_iconst (v := nI 0) (by decide) dX12_count_4 ?_
            refine go_istore_n (q := 2) (i := 2) rfl dX12_count_5 (nle rfl) (nle rfl) ?_
            refine go_iload_n (q := 1) (i := 1) rfl rfl dX12_count_6 ?_
            refine go_tswIn (off := 167) (tgt := 174) dX12_count_7 (by decide) (by decide) (by decide) (by decide) ?_
            refine go_L (L' := [some (.ref 274), some (.int (nI 11)), some (.int (nI 0)), none, none]) rfl ?_
            refine go_aload_n (q := 0) (i := 0) rfl rfl dX12_count_174 ?_
            refine go_getR lf12_173 rfl hx.o hx.r73 dX12_count_175 ?_
            refine go_iconst (v := nI 0) (by decide) dX12_count_178 ?_
            refine go_zald (j := 0) hx.i73 (by omega) (by first | decide | omega) rfl dX12_count_179 ?_
            rw [c1.1.at (show ¬ _ by omega)]
            refine go_if_eq (tgt := 187) dX12_count_180 (by decide) (fun h180 => ?_) (fun h180 => by exfalso; exact h180 u0)
            refine go_iconst (v := nI 0) (by decide) dX12_count_187 ?_
            refine go_aload_n (q := 0) (i := 0) rfl rfl dX12_count_188 ?_
            refine go_getR lf12_173 rfl hx.o hx.r73 dX12_count_189 ?_
            refine go_iconst (v := nI 1) (by decide) dX12_count_192 ?_
            refine go_zald (j := 1) hx.i73 (by omega) (by first | decide | omega) rfl dX12_count_193 ?_
            rw [c1.1.at (show ¬ _ by omega)]
            refine go_if_eq (tgt := 201) dX12_count_194 (by decide) (fun h194 => by exfalso; exact u1 h194) (fun h194 => ?_)
            refine go_iconst (v := nI 1) (by decide) dX12_count_197 ?_
            refine go_goto (tgt := 202) dX12_count_198 (by decide) ?_
            refine gn_add dX12_count_202 ?_
            refine go_aload_n (q := 0) (i := 0) rfl rfl dX12_count_203 ?_
            refine go_getR lf12_173 rfl hx.o hx.r73 dX12_count_204 ?_
            refine go_iconst (v := nI 2) (by decide) dX12_count_207 ?_
            refine go_zald (j := 2) hx.i73 (by omega) (by first | decide | omega) rfl dX12_count_208 ?_
            rw [c1.1.at (show ¬ _ by omega)]
            refine go_if_eq (tgt := 216) dX12_count_209 (by decide) (fun h209 => by exfalso; exact u2 h209) (fun h209 => ?_)
            refine go_iconst (v := nI 1) (by decide) dX12_count_212 ?_
            refine go_goto (tgt := 217) dX12_count_213 (by decide) ?_
            refine gn_add dX12_count_217 ?_
            refine go_iret rfl ⟨Nat.zero_le _, Nat.zero_le _⟩ dX12_count_218 ?_
            refine ⟨?_, c1⟩
            rw [coS_k (by decide)]
            rw [coK11]
            unfold shS
            rw [if_pos u0, if_neg u1, if_neg u2]
            rfl
      · skip
        by_cases u1 : gI m 326 1 = 0
        · skip
          by_cases u2 : gI m 326 2 = 0
          · skip
            refine go_aload_n (q := 0) (i := 0) rfl rfl dX12_count_0 ?_
            refine go_callV okmX12_copies lmX12_413 ⟨nle rfl, nle rfl⟩ hx.o ⟨by decide, rfl⟩ (ex_copies hx hm) npmX12_copies rfl (nle rfl) ⟨nle rfl, nle rfl⟩ dX12_count_1 ?_
            rintro _ m1 ⟨rfl, c1, e1, s1, l1, -⟩
            have hx := c1.wf hx
            have hm := c1.md hm
            refine go_c0 ?_
            refine go_iconst (v := nI 0) (by decide) dX12_count_4 ?_
            refine go_istore_n (q := 2) (i := 2) rfl dX12_count_5 (nle rfl) (nle rfl) ?_
            refine go_iload_n (q := 1) (i := 1) rfl rfl dX12_count_6 ?_
            refine go_tswIn (off := 167) (tgt := 174) dX12_count_7 (by decide) (by decide) (by decide) (by decide) ?_
            refine go_L (L' := [some (.ref 274), some (.int (nI 11)), some (.int (nI 0)), none, none]) rfl ?_
            refine go_aload_n (q := 0) (i := 0) rfl rfl dX12_count_174 ?_
            refine go_getR lf12_173 rfl hx.o hx.r73 dX12_count_175 ?_
            refine go_iconst (v := nI 0) (by decide) dX12_count_178 ?_
            refine go_zald (j := 0) hx.i73 (by omega) (by first | decide | omega) rfl dX12_count_179 ?_
            rw [c1.1.at (show ¬ _ by omega)]
            refine go_if_eq (tgt := 187) dX12_count_180 (by decide) (fun h180 => by exfalso; exact u0 h180) (fun h180 => ?_)
            refine go_iconst (v := nI 1) (by decide) dX12_count_183 ?_
            refine go_goto (tgt := 188) dX12_count_184 (by decide) ?_
            refine go_aload_n (q := 0) (i := 0) rfl rfl dX12_count_188 ?_
            refine go_getR lf12_173 rfl hx.o hx.r73 dX12_count_189 ?_
            refine go_iconst (v := nI 1) (by decide) dX12_count_192 ?_
            refine go_zald (j := 1) hx.i73 (by omega) (by first | decide | omega) rfl dX12_count_193 ?_
            rw [c1.1.at (show ¬ _ by omega)]
            refine go_if_eq (tgt := 201) dX12_count_194 (by decide) (fun h194 => ?_) (fun h194 => by exfalso; exact h194 u1)
            refine go_iconst (v := nI 0) (by decide) dX12_count_201 ?_
            refine gn_add dX12_count_202 ?_
            refine go_aload_n (q := 0) (i := 0) rfl rfl dX12_count_203 ?_
            refine go_getR lf12_173 rfl hx.o hx.r73 dX12_count_204 ?_
            refine go_iconst (v := nI 2) (by decide) dX12_count_207 ?_
            refine go_zald (j := 2) hx.i73 (by omega) (by first | decide | omega) rfl dX12_count_208 ?_
            rw [c1.1.at (show ¬ _ by omega)]
            refine go_if_eq (tgt := 216) dX12_count_209 (by decide) (fun h209 => ?_) (fun h209 => by exfalso; exact h209 u2)
            refine go_iconst (v := nI 0) (by decide) dX12_count_216 ?_
            refine gn_add dX12_count_217 ?_
            refine go_iret rfl ⟨Nat.zero_le _, Nat.zero_le _⟩ dX12_count_218 ?_
            refine ⟨?_, c1⟩
            rw [coS_k (by decide)]
            rw [coK11]
            unfold shS
            rw [if_neg u0, if_pos u1, if_pos u2]
            rfl
          · skip
            refine go_aload_n (q := 0) (i := 0) rfl rfl dX12_count_0 ?_
            refine go_callV okmX12_copies lmX12_413 ⟨nle rfl, nle rfl⟩ hx.o ⟨by decide, rfl⟩ (ex_copies hx hm) npmX12_copies rfl (nle rfl) ⟨nle rfl, nle rfl⟩ dX12_count_1 ?_
            rintro _ m1 ⟨rfl, c1, e1, s1, l1, -⟩
            have hx := c1.wf hx
            have hm := c1.md hm
            refine go_c0 ?_
            refine go_iconst (v := nI 0) (by decide) dX12_count_4 ?_
            refine go_istore_n (q := 2) (i := 2) rfl dX12_count_5 (nle rfl) (nle rfl) ?_
            refine go_iload_n (q := 1) (i := 1) rfl rfl dX12_count_6 ?_
            refine go_tswIn (off := 167) (tgt := 174) dX12_count_7 (by decide) (by decide) (by decide) (by decide) ?_
            refine go_L (L' := [some (.ref 274), some (.int (nI 11)), some (.int (nI 0)), none, none]) rfl ?_
            refine go_aload_n (q := 0) (i := 0) rfl rfl dX12_count_174 ?_
            refine go_getR lf12_173 rfl hx.o hx.r73 dX12_count_175 ?_
            refine go_iconst (v := nI 0) (by decide) dX12_count_178 ?_
            refine go_zald (j := 0) hx.i73 (by omega) (by first | decide | omega) rfl dX12_count_179 ?_
            rw [c1.1.at (show ¬ _ by omega)]
            refine go_if_eq (tgt := 187) dX12_count_180 (by decide) (fun h180 => by exfalso; exact u0 h180) (fun h180 => ?_)
            refine go_iconst (v := nI 1) (by decide) dX12_count_183 ?_
            refine go_goto (tgt := 188) dX12_count_184 (by decide) ?_
            refine go_aload_n (q := 0) (i := 0) rfl rfl dX12_count_188 ?_
            refine go_getR lf12_173 rfl hx.o hx.r73 dX12_count_189 ?_
            refine go_iconst (v := nI 1) (by decide) dX12_count_192 ?_
            refine go_zald (j := 1) hx.i73 (by omega) (by first | decide | omega) rfl dX12_count_193 ?_
            rw [c1.1.at (show ¬ _ by omega)]
            refine go_if_eq (tgt := 201) dX12_count_194 (by decide) (fun h194 => ?_) (fun h194 => by exfalso; exact h194 u1)
            refine go_iconst (v := nI 0) (by decide) dX12_count_201 ?_
            refine gn_add dX12_count_202 ?_
            refine go_aload_n (q := 0) (i := 0) rfl rfl dX12_count_203 ?_
            refine go_getR lf12_173 rfl hx.o hx.r73 dX12_count_204 ?_
            refine go_iconst (v := nI 2) (by decide) dX12_count_207 ?_
            refine go_zald (j := 2) hx.i73 (by omega) (by first | decide | omega) rfl dX12_count_208 ?_
            rw [c1.1.at (show ¬ _ by omega)]
            refine go_if_eq (tgt := 216) dX12_count_209 (by decide) (fun h209 => by exfalso; exact u2 h209) (fun h209 => ?_)
            refine go_iconst (v := nI 1) (by decide) dX12_count_212 ?_
            refine go_goto (tgt := 217) dX12_count_213 (by decide) ?_
            refine gn_add dX12_count_217 ?_
            refine go_iret rfl ⟨Nat.zero_le _, Nat.zero_le _⟩ dX12_count_218 ?_
            refine ⟨?_, c1⟩
            rw [coS_k (by decide)]
            rw [coK11]
            unfold shS
            rw [if_neg u0, if_pos u1, if_neg u2]
            rfl
        · skip
          by_cases u2 : gI m 326 2 = 0
          · skip
            refine go_aload_n (q := 0) (i := 0) rfl rfl dX12_count_0 ?_
            refine go_callV okmX12_copies lmX12_413 ⟨nle rfl, nle rfl⟩ hx.o ⟨by decide, rfl⟩ (ex_copies hx hm) npmX12_copies rfl (nle rfl) ⟨nle rfl, nle rfl⟩ dX12_count_1 ?_
            rintro _ m1 ⟨rfl, c1, e1, s1, l1, -⟩
            have hx := c1.wf hx
            have hm := c1.md hm
            refine go_c0 ?_
            refine go_iconst (v := nI 0) (by decide) dX12_count_4 ?_
            refine go_istore_n (q := 2) (i := 2) rfl dX12_count_5 (nle rfl) (nle rfl) ?_
            refine go_iload_n (q := 1) (i := 1) rfl rfl dX12_count_6 ?_
            refine go_tswIn (off := 167) (tgt := 174) dX12_count_7 (by decide) (by decide) (by decide) (by decide) ?_
            refine go_L (L' := [some (.ref 274), some (.int (nI 11)), some (.int (nI 0)), none, none]) rfl ?_
            refine go_aload_n (q := 0) (i := 0) rfl rfl dX12_count_174 ?_
            refine go_getR lf12_173 rfl hx.o hx.r73 dX12_count_175 ?_
            refine go_iconst (v := nI 0) (by decide) dX12_count_178 ?_
            refine go_zald (j := 0) hx.i73 (by omega) (by first | decide | omega) rfl dX12_count_179 ?_
            rw [c1.1.at (show ¬ _ by omega)]
            refine go_if_eq (tgt := 187) dX12_count_180 (by decide) (fun h180 => by exfalso; exact u0 h180) (fun h180 => ?_)
            refine go_iconst (v := nI 1) (by decide) dX12_count_183 ?_
            refine go_goto (tgt := 188) dX12_count_184 (by decide) ?_
            refine go_aload_n (q := 0) (i := 0) rfl rfl dX12_count_188 ?_
            refine go_getR lf12_173 rfl hx.o hx.r73 dX12_count_189 ?_
            refine go_iconst (v := nI 1) (by decide) dX12_count_192 ?_
            refine go_zald (j := 1) hx.i73 (by omega) (by first | decide | omega) rfl dX12_count_193 ?_
            rw [c1.1.at (show ¬ _ by omega)]
            refine go_if_eq (tgt := 201) dX12_count_194 (by decide) (fun h194 => by exfalso; exact u1 h194) (fun h194 => ?_)
            refine go_iconst (v := nI 1) (by decide) dX12_count_197 ?_
            refine go_goto (tgt := 202) dX12_count_198 (by decide) ?_
            refine gn_add dX12_count_202 ?_
            refine go_aload_n (q := 0) (i := 0) rfl rfl dX12_count_203 ?_
            refine go_getR lf12_173 rfl hx.o hx.r73 dX12_count_204 ?_
            refine go_iconst (v := nI 2) (by decide) dX12_count_207 ?_
            refine go_zald (j := 2) hx.i73 (by omega) (by first | decide | omega) rfl dX12_count_208 ?_
            rw [c1.1.at (show ¬ _ by omega)]
            refine go_if_eq (tgt := 216) dX12_count_209 (by decide) (fun h209 => ?_) (fun h209 => by exfalso; exact h209 u2)
            refine go_iconst (v := nI 0) (by decide) dX12_count_216 ?_
            refine gn_add dX12_count_217 ?_
            refine go_iret rfl ⟨Nat.zero_le _, Nat.zero_le _⟩ dX12_count_218 ?_
            refine ⟨?_, c1⟩
            rw [coS_k (by decide)]
            rw [coK11]
            unfold shS
            rw [if_neg u0, if_neg u1, if_pos u2]
            rfl
          · skip
            refine go_aload_n (q := 0) (i := 0) rfl rfl dX12_count_0 ?_
            refine go_callV okmX12_copies lmX12_413 ⟨nle rfl, nle rfl⟩ hx.o ⟨by decide, rfl⟩ (ex_copies hx hm) npmX12_copies rfl (nle rfl) ⟨nle rfl, nle rfl⟩ dX12_count_1 ?_
            rintro _ m1 ⟨rfl, c1, e1, s1, l1, -⟩
            have hx := c1.wf hx
            have hm := c1.md hm
            refine go_c0 ?_
            refine go_iconst (v := nI 0) (by decide) dX12_count_4 ?_
            refine go_istore_n (q := 2) (i := 2) rfl dX12_count_5 (nle rfl) (nle rfl) ?_
            refine go_iload_n (q := 1) (i := 1) rfl rfl dX12_count_6 ?_
            refine go_tswIn (off := 167) (tgt := 174) dX12_count_7 (by decide) (by decide) (by decide) (by decide) ?_
            refine go_L (L' := [some (.ref 274), some (.int (nI 11)), some (.int (nI 0)), none, none]) rfl ?_
            refine go_aload_n (q := 0) (i := 0) rfl rfl dX12_count_174 ?_
            refine go_getR lf12_173 rfl hx.o hx.r73 dX12_count_175 ?_
            refine go_iconst (v := nI 0) (by decide) dX12_count_178 ?_
            refine go_zald (j := 0) hx.i73 (by omega) (by first | decide | omega) rfl dX12_count_179 ?_
            rw [c1.1.at (show ¬ _ by omega)]
            refine go_if_eq (tgt := 187) dX12_count_180 (by decide) (fun h180 => by exfalso; exact u0 h180) (fun h180 => ?_)
            refine go_iconst (v := nI 1) (by decide) dX12_count_183 ?_
            refine go_goto (tgt := 188) dX12_count_184 (by decide) ?_
            refine go_aload_n (q := 0) (i := 0) rfl rfl dX12_count_188 ?_
            refine go_getR lf12_173 rfl hx.o hx.r73 dX12_count_189 ?_
            refine go_iconst (v := nI 1) (by decide) dX12_count_192 ?_
            refine go_zald (j := 1) hx.i73 (by omega) (by first | decide | omega) rfl dX12_count_193 ?_
            rw [c1.1.at (show ¬ _ by omega)]
            refine go_if_eq (tgt := 201) dX12_count_194 (by decide) (fun h194 => by exfalso; exact u1 h194) (fun h194 => ?_)
            refine go_iconst (v := nI 1) (by decide) dX12_count_197 ?_
            refine go_goto (tgt := 202) dX12_count_198 (by decide) ?_
            refine gn_add dX12_count_202 ?_
            refine go_aload_n (q := 0) (i := 0) rfl rfl dX12_count_203 ?_
            refine go_getR lf12_173 rfl hx.o hx.r73 dX12_count_204 ?_
            refine go_iconst (v := nI 2) (by decide) dX12_count_207 ?_
            refine go_zald (j := 2) hx.i73 (by omega) (by first | decide | omega) rfl dX12_count_208 ?_
            rw [c1.1.at (show ¬ _ by omega)]
            refine go_if_eq (tgt := 216) dX12_count_209 (by decide) (fun h209 => by exfalso; exact u2 h209) (fun h209 => ?_)
            refine go_iconst (v := nI 1) (by decide) dX12_count_212 ?_
            refine go_goto (tgt := 217) dX12_count_213 (by decide) ?_
            refine gn_add dX12_count_217 ?_
            refine go_iret rfl ⟨Nat.zero_le _, Nat.zero_le _⟩ dX12_count_218 ?_
            refine ⟨?_, c1⟩
            rw [coS_k (by decide)]
            rw [coK11]
            unfold shS
            rw [if_neg u0, if_neg u1, if_neg u2]
            rfl
    · skip
      refine go_aload_n (q := 0) (i := 0) rfl rfl dX12_count_0 ?_
      refine go_callV okmX12_copies lmX12_413 ⟨nle rfl, nle rfl⟩ hx.o ⟨by decide, rfl⟩ (ex_copies hx hm) npmX12_copies rfl (nle rfl) ⟨nle rfl, nle rfl⟩ dX12_count_1 ?_
      rintro _ m1 ⟨rfl, c1, e1, s1, l1, -⟩
      have hx := c1.wf hx
      have hm := c1.md hm
      refine go_c0 ?_
      refine go_iconst (v := nI 0) (by decide) dX12_count_4 ?_
      refine go_istore_n (q := 2) (i := 2) rfl dX12_count_5 (nle rfl) (nle rfl) ?_
      refine go_iload_n (q := 1) (i := 1) rfl rfl dX12_count_6 ?_
      refine go_tswIn (off := 212) (tgt := 219) dX12_count_7 (by decide) (by decide) (by decide) (by decide) ?_
      refine go_aload_n (q := 0) (i := 0) rfl rfl dX12_count_219 ?_
      refine go_callV okmX12_isGust lmX12_404 ⟨nle rfl, nle rfl⟩ hx.o ⟨by decide, rfl⟩ (ex_isGust hx hm) npmX12_isGust rfl (nle rfl) ⟨nle rfl, nle rfl⟩ dX12_count_220 ?_
      rintro _ mz ⟨rfl, hz⟩
      subst mz
      rw [e1, s1]
      refine go_c1 ?_
      refine go_if_eq (tgt := 230) dX12_count_223 (by decide) (fun h223 => ?_) (fun h223 => ?_)
      · skip
        refine go_iconst (v := nI 0) (by decide) dX12_count_230 ?_
        refine go_iret rfl ⟨Nat.zero_le _, Nat.zero_le _⟩ dX12_count_231 ?_
        refine ⟨?_, c1⟩
        rw [coS_k (by decide)]
        rw [coK12]
        rw [show guS _ _ _ = nI 0 from h223.trans nI_0.symm]
      · skip
        refine go_iconst (v := nI 1) (by decide) dX12_count_226 ?_
        refine go_goto (tgt := 231) dX12_count_227 (by decide) ?_
        refine go_iret rfl ⟨Nat.zero_le _, Nat.zero_le _⟩ dX12_count_231 ?_
        refine ⟨?_, c1⟩
        rw [coS_k (by decide)]
        rw [coK12]
        rw [is_1 (gu01 _ _ _) (fun z => h223 (z.trans nI_0))]
    · skip
      refine go_aload_n (q := 0) (i := 0) rfl rfl dX12_count_0 ?_
      refine go_callV okmX12_copies lmX12_413 ⟨nle rfl, nle rfl⟩ hx.o ⟨by decide, rfl⟩ (ex_copies hx hm) npmX12_copies rfl (nle rfl) ⟨nle rfl, nle rfl⟩ dX12_count_1 ?_
      rintro _ m1 ⟨rfl, c1, e1, s1, l1, -⟩
      have hx := c1.wf hx
      have hm := c1.md hm
      refine go_c0 ?_
      refine go_iconst (v := nI 0) (by decide) dX12_count_4 ?_
      refine go_istore_n (q := 2) (i := 2) rfl dX12_count_5 (nle rfl) (nle rfl) ?_
      refine go_iload_n (q := 1) (i := 1) rfl rfl dX12_count_6 ?_
      refine go_tswIn (off := 225) (tgt := 232) dX12_count_7 (by decide) (by decide) (by decide) (by decide) ?_
      refine go_aload_n (q := 0) (i := 0) rfl rfl dX12_count_232 ?_
      refine go_getR lf12_82 rfl hx.o hx.r35 dX12_count_233 ?_
      refine go_aload_n (q := 0) (i := 0) rfl rfl dX12_count_236 ?_
      refine go_getI lf12_260 rfl hx.o dX12_count_237 ?_
      rw [hm.li]
      refine go_iald (j := lv) hx.i35 (by omega) (by first | decide | omega) rfl dX12_count_240 ?_
      rw [hm.bk]
      refine go_iret rfl ⟨Nat.zero_le _, Nat.zero_le _⟩ dX12_count_241 ?_
      refine ⟨?_, c1⟩
      rw [coS_k (by decide)]
      rw [coK13]
    · skip
      refine go_aload_n (q := 0) (i := 0) rfl rfl dX12_count_0 ?_
      refine go_callV okmX12_copies lmX12_413 ⟨nle rfl, nle rfl⟩ hx.o ⟨by decide, rfl⟩ (ex_copies hx hm) npmX12_copies rfl (nle rfl) ⟨nle rfl, nle rfl⟩ dX12_count_1 ?_
      rintro _ m1 ⟨rfl, c1, e1, s1, l1, -⟩
      have hx := c1.wf hx
      have hm := c1.md hm
      refine go_c0 ?_
      refine go_iconst (v := nI 0) (by decide) dX12_count_4 ?_
      refine go_istore_n (q := 2) (i := 2) rfl dX12_count_5 (nle rfl) (nle rfl) ?_
      refine go_iload_n (q := 1) (i := 1) rfl rfl dX12_count_6 ?_
      refine go_tswIn (off := 235) (tgt := 242) dX12_count_7 (by decide) (by decide) (by decide) (by decide) ?_
      refine go_aload_n (q := 0) (i := 0) rfl rfl dX12_count_242 ?_
      refine go_bipush (v := nI 9) (by decide) dX12_count_243 ?_
      refine go_callV okmX12_cellsOf lmX12_420 ⟨nle rfl, nle rfl⟩ hx.o ⟨by decide, rfl⟩ (ex_cellsOf hx hm ok) npmX12_cellsOf rfl (nle rfl) ⟨nle rfl, nle rfl⟩ dX12_count_245 ?_
      rintro _ mz ⟨rfl, hz⟩
      subst mz
      rw [e1]
      refine go_c1 ?_
      refine go_iret rfl ⟨Nat.zero_le _, Nat.zero_le _⟩ dX12_count_248 ?_
      refine ⟨?_, c1⟩
      rw [coS_k (by decide)]
      rw [coK14]
    · skip
      refine go_aload_n (q := 0) (i := 0) rfl rfl dX12_count_0 ?_
      refine go_callV okmX12_copies lmX12_413 ⟨nle rfl, nle rfl⟩ hx.o ⟨by decide, rfl⟩ (ex_copies hx hm) npmX12_copies rfl (nle rfl) ⟨nle rfl, nle rfl⟩ dX12_count_1 ?_
      rintro _ m1 ⟨rfl, c1, e1, s1, l1, -⟩
      have hx := c1.wf hx
      have hm := c1.md hm
      refine go_c0 ?_
      refine go_iconst (v := nI 0) (by decide) dX12_count_4 ?_
      refine go_istore_n (q := 2) (i := 2) rfl dX12_count_5 (nle rfl) (nle rfl) ?_
      refine go_iload_n (q := 1) (i := 1) rfl rfl dX12_count_6 ?_
      refine go_tswIn (off := 242) (tgt := 249) dX12_count_7 (by decide) (by decide) (by decide) (by decide) ?_
      refine (go_dry hx hm ok).mono ?_
      rintro o _ ⟨rfl, rfl⟩
      refine ⟨?_, c1⟩
      rw [coS_k (by decide), e1, coK15]
    · skip
      refine go_aload_n (q := 0) (i := 0) rfl rfl dX12_count_0 ?_
      refine go_callV okmX12_copies lmX12_413 ⟨nle rfl, nle rfl⟩ hx.o ⟨by decide, rfl⟩ (ex_copies hx hm) npmX12_copies rfl (nle rfl) ⟨nle rfl, nle rfl⟩ dX12_count_1 ?_
      rintro _ m1 ⟨rfl, c1, e1, s1, l1, -⟩
      have hx := c1.wf hx
      have hm := c1.md hm
      refine go_c0 ?_
      refine go_iconst (v := nI 0) (by decide) dX12_count_4 ?_
      refine go_istore_n (q := 2) (i := 2) rfl dX12_count_5 (nle rfl) (nle rfl) ?_
      refine go_iload_n (q := 1) (i := 1) rfl rfl dX12_count_6 ?_
      refine go_tswIn (off := 306) (tgt := 313) dX12_count_7 (by decide) (by decide) (by decide) (by decide) ?_
      refine go_aload_n (q := 0) (i := 0) rfl rfl dX12_count_313 ?_
      refine go_getR lf12_143 rfl hx.o hx.r59 dX12_count_314 ?_
      refine go_bipush (v := nI 104) (by decide) dX12_count_317 ?_
      refine go_iald (j := 104) hx.i59 (by omega) (by first | decide | omega) rfl dX12_count_319 ?_
      rw [e1]
      refine go_bipush (v := nI 24) (by decide) dX12_count_320 ?_
      refine go_idiv (by decide) dX12_count_322 ?_
      refine go_iret rfl ⟨Nat.zero_le _, Nat.zero_le _⟩ dX12_count_323 ?_
      refine ⟨?_, c1⟩
      rw [coS_k (by decide)]
      rw [coK16]
    · skip
      refine go_aload_n (q := 0) (i := 0) rfl rfl dX12_count_0 ?_
      refine go_callV okmX12_copies lmX12_413 ⟨nle rfl, nle rfl⟩ hx.o ⟨by decide, rfl⟩ (ex_copies hx hm) npmX12_copies rfl (nle rfl) ⟨nle rfl, nle rfl⟩ dX12_count_1 ?_
      rintro _ m1 ⟨rfl, c1, e1, s1, l1, -⟩
      have hx := c1.wf hx
      have hm := c1.md hm
      refine go_c0 ?_
      refine go_iconst (v := nI 0) (by decide) dX12_count_4 ?_
      refine go_istore_n (q := 2) (i := 2) rfl dX12_count_5 (nle rfl) (nle rfl) ?_
      refine go_iload_n (q := 1) (i := 1) rfl rfl dX12_count_6 ?_
      refine go_tswIn (off := 317) (tgt := 324) dX12_count_7 (by decide) (by decide) (by decide) (by decide) ?_
      refine go_iconst (v := nI 0) (by decide) dX12_count_324 ?_
      refine go_istore_n (q := 3) (i := 3) rfl dX12_count_325 (nle rfl) (nle rfl) ?_
      have key : ∀ h, h ≤ P.hd → Go mX12_count (fun o m' => o = some (.int (coS P (cp 105 (gI m 315) (gI m 316)) (gI m 274 2) (gI m 274 63) (gI m 274 68) (shS (gI m 326)) (nI 17))) ∧ Mo m m') 326 [some (.ref 274), some (.int (nI 17)), some (.int (sm P.ra h)), some (.int (nI h)), none] [] m1 0 0 := by
        refine loop_up P.hd ?_ ?_
        · skip
          refine go_iload_n (q := 3) (i := 3) rfl rfl dX12_count_326 ?_
          refine go_aload_n (q := 0) (i := 0) rfl rfl dX12_count_327 ?_
          refine go_getR lf12_58 rfl hx.o hx.r27 dX12_count_328 ?_
          refine go_aload_n (q := 0) (i := 0) rfl rfl dX12_count_331 ?_
          refine go_getI lf12_260 rfl hx.o dX12_count_332 ?_
          rw [hm.li]
          refine go_iald (j := lv) hx.i27 (by omega) (by first | decide | omega) rfl dX12_count_335 ?_
          rw [hm.hd]
          refine gn_ge (by omega) (by omega) (tgt := 361) dX12_count_336 (by decide) (fun h336 => ?_) (fun h336 => by exfalso; omega)
          refine go_iload_n (q := 2) (i := 2) rfl rfl dX12_count_361 ?_
          refine go_iret rfl ⟨Nat.zero_le _, Nat.zero_le _⟩ dX12_count_362 ?_
          refine ⟨?_, c1⟩
          rw [coS_k (by decide)]
          rw [coK17]
        · intro h hh ihh 
          refine go_iload_n (q := 3) (i := 3) rfl rfl dX12_count_326 ?_
          refine go_aload_n (q := 0) (i := 0) rfl rfl dX12_count_327 ?_
          refine go_getR lf12_58 rfl hx.o hx.r27 dX12_count_328 ?_
          refine go_aload_n (q := 0) (i := 0) rfl rfl dX12_count_331 ?_
          refine go_getI lf12_260 rfl hx.o dX12_count_332 ?_
          rw [hm.li]
          refine go_iald (j := lv) hx.i27 (by omega) (by first | decide | omega) rfl dX12_count_335 ?_
          rw [hm.hd]
          refine gn_ge (by omega) (by omega) (tgt := 361) dX12_count_336 (by decide) (fun h336 => by exfalso; omega) (fun h336 => ?_)
          refine go_iload_n (q := 2) (i := 2) rfl rfl dX12_count_339 ?_
          refine go_aload_n (q := 0) (i := 0) rfl rfl dX12_count_340 ?_
          refine go_getR lf12_61 rfl hx.o hx.r28 dX12_count_341 ?_
          refine go_iconst (v := nI 4) (by decide) dX12_count_344 ?_
          refine go_aload_n (q := 0) (i := 0) rfl rfl dX12_count_345 ?_
          refine go_getI lf12_260 rfl hx.o dX12_count_346 ?_
          rw [hm.li]
          refine gn_mul dX12_count_349 ?_
          refine go_iload_n (q := 3) (i := 3) rfl rfl dX12_count_350 ?_
          refine gn_add dX12_count_351 ?_
          refine go_iald (j := ((4 * lv) + h)) hx.i28 (by omega) (by first | decide | omega) rfl dX12_count_352 ?_
          rw [(hm.ra h hh).1]
          refine go_iadd dX12_count_353 ?_
          refine go_istore_n (q := 2) (i := 2) rfl dX12_count_354 (nle rfl) (nle rfl) ?_
          refine gn_inc (i := 3) (a := h) (q := 1) rfl dX12_count_355 (nle rfl) rfl ?_
          refine go_goto (tgt := 326) dX12_count_358 (by decide) ?_
          exact ihh
      exact key 0 (Nat.zero_le _)
