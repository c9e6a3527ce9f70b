theorem ic01 (P : Pl) (X Y : Int32) : icS P X Y = nI 0 ∨ icS P X Y = nI 1 := by
  unfold icS
  split
  · exact Or.inl rfl
  · split
    · exact Or.inl rfl
    · exact Or.inr rfl
set_option maxRecDepth 100000 in
set_option maxHeartbeats 4000000 in
theorem ex_isAt {m : Me} {P : Pl} {lv : Nat} (hx : Wf12 m.1 (gR m)) (hm : MdC m P lv) {x : Int32} : Ev mX12_isAt [.ref 274, .int x] m (fun o m' => o = some (.int (iaS P x)) ∧ m' = m) := by
  refine ⟨plmX12_isAt, nle rfl, ?_⟩
  refine go_iload_n (q := 1) (i := 1) rfl rfl dX12_isAt_0 ?_
  refine go_if_lt (tgt := 23) dX12_isAt_1 (by decide) (fun h1 => ?_) (fun h1 => ?_)
  · skip
    refine go_iconst (v := nI 0) (by decide) dX12_isAt_23 ?_
    refine go_zret rfl (by decide) ⟨Nat.zero_le _, Nat.zero_le _⟩ dX12_isAt_24 ?_
    refine ⟨?_, rfl⟩
    unfold iaS rm10
    rw [if_neg (Int32.not_le.mpr h1)]
  · skip
    refine go_aload_n (q := 0) (i := 0) rfl rfl dX12_isAt_4 ?_
    refine go_iload_n (q := 1) (i := 1) rfl rfl dX12_isAt_5 ?_
    refine go_bipush (v := nI 10) (by decide) dX12_isAt_6 ?_
    refine go_irem (by decide) dX12_isAt_8 ?_
    refine go_iload_n (q := 1) (i := 1) rfl rfl dX12_isAt_9 ?_
    refine go_bipush (v := nI 10) (by decide) dX12_isAt_10 ?_
    refine go_idiv (by decide) dX12_isAt_12 ?_
    refine go_callV okmX12_isCell lmX12_394 ⟨nle rfl, nle rfl⟩ hx.o ⟨by decide, rfl⟩ (ex_isCell hx hm) npmX12_isCell rfl (nle rfl) ⟨nle rfl, nle rfl⟩ dX12_isAt_13 ?_
    rintro _ mz ⟨rfl, hz⟩
    subst mz
    refine go_c1 ?_
    refine go_if_eq (tgt := 23) dX12_isAt_16 (by decide) (fun h16 => ?_) (fun h16 => ?_)
    · skip
      refine go_iconst (v := nI 0) (by decide) dX12_isAt_23 ?_
      refine go_zret rfl (by decide) ⟨Nat.zero_le _, Nat.zero_le _⟩ dX12_isAt_24 ?_
      refine ⟨?_, rfl⟩
      unfold iaS rm10
      rw [if_pos (Int32.not_lt.mp h1), show icS P _ _ = nI 0 from h16.trans nI_0.symm]
    · skip
      refine go_iconst (v := nI 1) (by decide) dX12_isAt_19 ?_
      refine go_goto (tgt := 24) dX12_isAt_20 (by decide) ?_
      refine go_zret rfl (by decide) ⟨Nat.zero_le _, Nat.zero_le _⟩ dX12_isAt_24 ?_
      refine ⟨?_, rfl⟩
      unfold iaS rm10
      rw [if_pos (Int32.not_lt.mp h1), (ic01 P _ _).resolve_left (fun z => h16 (z.trans nI_0))]
/-- watched, as the reference keeps it -/
def wW (W : Nat → Int32) : Nat → Prop := fun c => (W 0 = nI (nm c) ∨ W 1 = nI (nm c)) ∨ W 2 = nI (nm c)
theorem nm_ab {a b : Nat} (ha : a < 8) : nm (8 * b + a) = 10 * b + a := by unfold nm; omega
set_option maxRecDepth 100000 in
set_option maxHeartbeats 4000000 in
theorem ex_isWatched {m : Me} {a b : Nat} (hx : Wf12 m.1 (gR m)) (ha : a < 8) : Ev mX12_isWatched [.ref 274, .int (nI a), .int (nI b)] m (fun o m' => o = some (.int (pit (wW (gI m 321) (8 * b + a)) (nI 1) (nI 0))) ∧ m' = m) := by
  refine ⟨plmX12_isWatched, nle rfl, ?_⟩
  refine go_aload_n (q := 0) (i := 0) rfl rfl dX12_isWatched_0 ?_
  refine go_getR lf12_158 rfl hx.o hx.r67 dX12_isWatched_1 ?_
  refine go_iconst (v := nI 0) (by decide) dX12_isWatched_4 ?_
  refine go_iald (j := 0) hx.i67 (by omega) (by first | decide | omega) rfl dX12_isWatched_5 ?_
  refine go_bipush (v := nI 10) (by decide) dX12_isWatched_6 ?_
  refine go_iload_n (q := 2) (i := 2) rfl rfl dX12_isWatched_8 ?_
  refine gn_mul dX12_isWatched_9 ?_
  refine go_iload_n (q := 1) (i := 1) rfl rfl dX12_isWatched_10 ?_
  refine gn_add dX12_isWatched_11 ?_
  refine go_icmp_eq (tgt := 45) dX12_isWatched_12 (by decide) (fun h12 => ?_) (fun h12 => ?_)
  · skip
    refine go_iconst (v := nI 1) (by decide) dX12_isWatched_45 ?_
    refine go_goto (tgt := 50) dX12_isWatched_46 (by decide) ?_
    refine go_zret rfl (by decide) ⟨Nat.zero_le _, Nat.zero_le _⟩ dX12_isWatched_50 ?_
    refine ⟨?_, rfl⟩
    rw [pit_t (show wW (gI m 321) (8 * b + a) from by unfold wW; rw [nm_ab ha]; exact Or.inl (Or.inl h12))]
  · skip
    refine go_aload_n (q := 0) (i := 0) rfl rfl dX12_isWatched_15 ?_
    refine go_getR lf12_158 rfl hx.o hx.r67 dX12_isWatched_16 ?_
    refine go_iconst (v := nI 1) (by decide) dX12_isWatched_19 ?_
    refine go_iald (j := 1) hx.i67 (by omega) (by first | decide | omega) rfl dX12_isWatched_20 ?_
    refine go_bipush (v := nI 10) (by decide) dX12_isWatched_21 ?_
    refine go_iload_n (q := 2) (i := 2) rfl rfl dX12_isWatched_23 ?_
    refine gn_mul dX12_isWatched_24 ?_
    refine go_iload_n (q := 1) (i := 1) rfl rfl dX12_isWatched_25 ?_
    refine gn_add dX12_isWatched_26 ?_
    refine go_icmp_eq (tgt := 45) dX12_isWatched_27 (by decide) (fun h27 => ?_) (fun h27 => ?_)
    · skip
      refine go_iconst (v := nI 1) (by decide) dX12_isWatched_45 ?_
      refine go_goto (tgt := 50) dX12_isWatched_46 (by decide) ?_
      refine go_zret rfl (by decide) ⟨Nat.zero_le _, Nat.zero_le _⟩ dX12_isWatched_50 ?_
      refine ⟨?_, rfl⟩
      rw [pit_t (show wW (gI m 321) (8 * b + a) from by unfold wW; rw [nm_ab ha]; exact Or.inl (Or.inr h27))]
    · skip
      refine go_aload_n (q := 0) (i := 0) rfl rfl dX12_isWatched_30 ?_
      refine go_getR lf12_158 rfl hx.o hx.r67 dX12_isWatched_31 ?_
      refine go_iconst (v := nI 2) (by decide) dX12_isWatched_34 ?_
      refine go_iald (j := 2) hx.i67 (by omega) (by first | decide | omega) rfl dX12_isWatched_35 ?_
      refine go_bipush (v := nI 10) (by decide) dX12_isWatched_36 ?_
      refine go_iload_n (q := 2) (i := 2) rfl rfl dX12_isWatched_38 ?_
      refine gn_mul dX12_isWatched_39 ?_
      refine go_iload_n (q := 1) (i := 1) rfl rfl dX12_isWatched_40 ?_
      refine gn_add dX12_isWatched_41 ?_
      refine go_icmp_ne (tgt := 49) dX12_isWatched_42 (by decide) (fun h42 => ?_) (fun h42 => ?_)
      · skip
        refine go_iconst (v := nI 0) (by decide) dX12_isWatched_49 ?_
        refine go_zret rfl (by decide) ⟨Nat.zero_le _, Nat.zero_le _⟩ dX12_isWatched_50 ?_
        refine ⟨?_, rfl⟩
        rw [pit_f (show ¬ wW (gI m 321) (8 * b + a) from by unfold wW; rw [nm_ab ha]; exact fun z => z.elim (fun z => z.elim h12 h27) h42)]
      · skip
        refine go_iconst (v := nI 1) (by decide) dX12_isWatched_45 ?_
        refine go_goto (tgt := 50) dX12_isWatched_46 (by decide) ?_
        refine go_zret rfl (by decide) ⟨Nat.zero_le _, Nat.zero_le _⟩ dX12_isWatched_50 ?_
        refine ⟨?_, rfl⟩
        rw [pit_t (show wW (gI m 321) (8 * b + a) from by unfold wW; rw [nm_ab ha]; exact Or.inr h42)]
theorem wR_dead {S : Nat → Prop} {f g : Nat} (h : ¬ S f) : Cut S f g := by
  have k : ∀ n c, ¬ wR S f n c := by
    intro n
    induction n with
    | zero => intro c z; exact h z.2
    | succ n ih =>
      intro c z
      rcases z.1 with y | ⟨-, y⟩ | ⟨-, y⟩ | ⟨-, y⟩ | y
      · exact ih _ y
      · exact ih _ y
      · exact ih _ y
      · exact ih _ y
      · exact ih _ y
  exact fun n => k n g
theorem wR_goal {S : Nat → Prop} {f g : Nat} (h : ¬ S g) : Cut S f g := fun n z => h (wR_S n g z)
/-- nothing more is found: all that can be reached stands there -/
theorem wR_shut {P : Pl} {S : Nat → Prop} {T : Nat → Int32} {f g : Nat} (hS : ∀ c, S c → ld P c) (hf : ¬ T f = 0) (hg : T g = 0) (h : ∀ c, ld P c → ¬ T c = 0 ∨ ¬ nxt (LT P T) c ∨ (¬ c = g ∧ ¬ S c)) (hgS : ¬ nxt (LT P T) g ∨ ¬ S g) : Cut S f g := by
  have k : ∀ n c, wR S f n c → ¬ T c = 0 := by
    intro n
    induction n with
    | zero => intro c z; rw [z.1]; exact hf
    | succ n ih =>
      intro c z
      have e : ∀ d, wR S f n d → LT P T d := fun d y => ⟨hS d (wR_S n d y), ih d y⟩
      rcases z.1 with y | y
      · exact ih c y
      · have y2 : nxt (LT P T) c := by
          rcases y with ⟨q, y⟩ | ⟨q, y⟩ | ⟨q, y⟩ | y
          · exact Or.inl ⟨q, e _ y⟩
          · exact Or.inr (Or.inl ⟨q, e _ y⟩)
          · exact Or.inr (Or.inr (Or.inl ⟨q, e _ y⟩))
          · exact Or.inr (Or.inr (Or.inr (e _ y)))
        rcases h c (hS c z.2) with q | q | ⟨-, q⟩
        · exact q
        · exact absurd y2 q
        · exact absurd z.2 q
  exact fun n z => k n g z hg
theorem wR_nxt {P : Pl} {S : Nat → Prop} {T : Nat → Int32} {f c : Nat} (hs : ∀ d, LT P T d → ∃ n, wR S f n d) (h : nxt (LT P T) c) (hc : S c) : ∃ n, wR S f n c := by
  rcases h with ⟨q, y⟩ | ⟨q, y⟩ | ⟨q, y⟩ | y
  · obtain ⟨n, z⟩ := hs _ y
    exact ⟨n + 1, Or.inr (Or.inl ⟨q, z⟩), hc⟩
  · obtain ⟨n, z⟩ := hs _ y
    exact ⟨n + 1, Or.inr (Or.inr (Or.inl ⟨q, z⟩)), hc⟩
  · obtain ⟨n, z⟩ := hs _ y
    exact ⟨n + 1, Or.inr (Or.inr (Or.inr (Or.inl ⟨q, z⟩))), hc⟩
  · obtain ⟨n, z⟩ := hs _ y
    exact ⟨n + 1, Or.inr (Or.inr (Or.inr (Or.inr z))), hc⟩
/-- the row of truths, as the search keeps it -/
def TI (P : Pl) (S : Nat → Prop) (f g : Nat) (T : Nat → Int32) : Prop := (∀ d, LT P T d → ∃ n, wR S f n d) ∧ ¬ T f = 0 ∧ T g = 0
theorem TI.set {P : Pl} {S : Nat → Prop} {f g : Nat} {T : Nat → Int32} {c : Nat} (h : TI P S f g T) (hc : ∃ n, wR S f n c) (hg : ¬ c = g) : TI P S f g (upd T c (nI 1)) := by
  refine ⟨fun d l => ?_, ?_, ?_⟩
  · by_cases e : d = c
    · rw [e]; exact hc
    · refine h.1 d ⟨l.1, ?_⟩
      have := l.2
      rw [upd_ne e] at this; exact this
  · by_cases e : f = c
    · rw [e, upd_eq]; decide
    · rw [upd_ne e]; exact h.2.1
  · rw [upd_ne (fun z => hg z.symm)]; exact h.2.2
/-- what a sweep has done so far: nothing, or one more stands there -/
def SW (P : Pl) (S : Nat → Prop) (g : Nat) (T0 T : Nat → Int32) (n : Nat) (b : Int32) : Prop := (b = nI 0 ∧ T = T0 ∧ ∀ c, c < n → ld P c → ¬ T0 c = 0 ∨ ¬ nxt (LT P T0) c ∨ (¬ c = g ∧ ¬ S c)) ∨ (b = nI 1 ∧ (∀ c, LT P T0 c → LT P T c) ∧ ∃ c, c < 40 ∧ LT P T c ∧ ¬ LT P T0 c)
theorem SW.skip {P : Pl} {S : Nat → Prop} {g n : Nat} {T0 T : Nat → Int32} {b : Int32} (h : SW P S g T0 T n b) (k : ¬ T n = 0 ∨ ¬ nxt (LT P T) n ∨ (¬ n = g ∧ ¬ S n)) : SW P S g T0 T (n + 1) b := by
  rcases h with ⟨h1, h2, h3⟩ | h
  · refine Or.inl ⟨h1, h2, fun c hc l => ?_⟩
    by_cases e : c = n
    · rw [e, ← h2]; exact k
    · exact h3 c (by omega) l
  · exact Or.inr h
theorem SW.set {P : Pl} {S : Nat → Prop} {g n : Nat} {T0 T : Nat → Int32} {b : Int32} (hn : n < 40) (l : ld P n) (h : SW P S g T0 T n b) (k : T n = 0) : SW P S g T0 (upd T n (nI 1)) (n + 1) (nI 1) := by
  have one : ¬ nI 1 = 0 := by decide
  have up : ∀ c, LT P T c → LT P (upd T n (nI 1)) c := fun c z => ⟨z.1, by
    by_cases e : c = n
    · rw [e, upd_eq]; exact one
    · rw [upd_ne e]; exact z.2⟩
  rcases h with ⟨h1, h2, h3⟩ | ⟨h1, h2, c, h3, h4, h5⟩
  · exact Or.inr ⟨rfl, by rw [h2] at up ⊢; exact up, n, hn, ⟨l, by rw [upd_eq]; exact one⟩, fun z => z.2 (by rw [← h2]; exact k)⟩
  · exact Or.inr ⟨rfl, fun c z => up c (h2 c z), c, h3, up c h4, h5⟩
theorem SW.end {P : Pl} {S : Nat → Prop} {g n n' : Nat} {T0 T : Nat → Int32} {b : Int32} (h : SW P S g T0 T n b) (k : ∀ c, ld P c → c < n' → c < n) : SW P S g T0 T n' b := by
  rcases h with ⟨h1, h2, h3⟩ | h
  · exact Or.inl ⟨h1, h2, fun c hc l => h3 c (k c l hc) l⟩
  · exact Or.inr h
set_option maxRecDepth 100000 in
set_option maxHeartbeats 8000000 in
theorem ex_isOpen {m : Me} {P : Pl} {lv : Nat} (hx : Wf12 m.1 (gR m)) (hm : MdC m P lv) (ok : PlOk P) {f g t : Nat} (hf4 : f < 40) (hg4 : g < 40) (hlf : ld P f) (hlg : ld P g) (hfg : ¬ g = f) (ht : t ≤ 99) (hwf : ¬ wW (gI m 321) f) (hwg : ¬ wW (gI m 321) g) : Ev mX12_isOpen [.ref 274, .int (nI (nm f)), .int (nI (nm g)), .int (nI t)] m (fun o m' => o = some (.int (pit (Gd (qS P (gI m 316) t) f g (wW (gI m 321))) (nI 0) (nI 1))) ∧ Ch (fun x => x = 319) m m') := by
  refine ⟨plmX12_isOpen, nle rfl, ?_⟩
  have hw8 := ok.1
  have hr5 := ok.2.1
  have hlv := hm.lv
  have hx0 := hx
  have hm0 := hm
  have nmf : 8 * (nm f / 10) + nm f % 10 = f := by unfold nm; omega
  have nmg : 8 * (nm g / 10) + nm g % 10 = g := by unfold nm; omega
  have hnf := nm_lt hf4
  have hng := nm_lt hg4
  refine go_aload_n (q := 0) (i := 0) rfl rfl dX12_isOpen_0 ?_
  refine go_getR lf12_143 rfl hx.o hx.r59 dX12_isOpen_1 ?_
  refine go_bipush (v := nI 8) (by decide) dX12_isOpen_4 ?_
  refine go_iload_n (q := 1) (i := 1) rfl rfl dX12_isOpen_6 ?_
  refine go_bipush (v := nI 10) (by decide) dX12_isOpen_7 ?_
  refine gn_div (by omega) (by omega) (by omega) dX12_isOpen_9 ?_
  refine gn_mul dX12_isOpen_10 ?_
  refine go_iload_n (q := 1) (i := 1) rfl rfl dX12_isOpen_11 ?_
  refine go_bipush (v := nI 10) (by decide) dX12_isOpen_12 ?_
  refine gn_rem (by omega) (by omega) (by omega) dX12_isOpen_14 ?_
  refine gn_add dX12_isOpen_15 ?_
  refine go_iald (j := ((8 * (((nm f)) / 10)) + (((nm f)) % 10))) hx.i59 (by omega) (by first | decide | omega) rfl dX12_isOpen_16 ?_
  rw [nmf]
  refine go_iload_n (q := 3) (i := 3) rfl rfl dX12_isOpen_17 ?_
  refine go_icmp_lt (tgt := 42) dX12_isOpen_18 (by decide) (fun h18 => ?_) (fun h18 => ?_)
  · skip
    refine go_iconst (v := nI 0) (by decide) dX12_isOpen_42 ?_
    refine go_zret rfl (by decide) ⟨Nat.zero_le _, Nat.zero_le _⟩ dX12_isOpen_43 ?_
    refine ⟨?_, Ch.rf⟩
    rw [pit_t (show Gd (qS P (gI m 316) t) f g (wW (gI m 321)) from wR_dead (fun z => absurd h18 (Int32.not_lt.mpr z.1.2.2)))]
  · skip
    refine go_aload_n (q := 0) (i := 0) rfl rfl dX12_isOpen_21 ?_
    refine go_getR lf12_143 rfl hx.o hx.r59 dX12_isOpen_22 ?_
    refine go_bipush (v := nI 8) (by decide) dX12_isOpen_25 ?_
    refine go_iload_n (q := 2) (i := 2) rfl rfl dX12_isOpen_27 ?_
    refine go_bipush (v := nI 10) (by decide) dX12_isOpen_28 ?_
    refine gn_div (by omega) (by omega) (by omega) dX12_isOpen_30 ?_
    refine gn_mul dX12_isOpen_31 ?_
    refine go_iload_n (q := 2) (i := 2) rfl rfl dX12_isOpen_32 ?_
    refine go_bipush (v := nI 10) (by decide) dX12_isOpen_33 ?_
    refine gn_rem (by omega) (by omega) (by omega) dX12_isOpen_35 ?_
    refine gn_add dX12_isOpen_36 ?_
    refine go_iald (j := ((8 * (((nm g)) / 10)) + (((nm g)) % 10))) hx.i59 (by omega) (by first | decide | omega) rfl dX12_isOpen_37 ?_
    rw [nmg]
    refine go_iload_n (q := 3) (i := 3) rfl rfl dX12_isOpen_38 ?_
    refine go_icmp_ge (tgt := 44) dX12_isOpen_39 (by decide) (fun h39 => ?_) (fun h39 => ?_)
    · skip
      refine go_iconst (v := nI 0) (by decide) dX12_isOpen_44 ?_
      refine go_istore (i := 4) dX12_isOpen_45 (nle rfl) (nle rfl) ?_
      have hrf := Int32.not_lt.mp h18
      have hrg := h39
      have out : ∀ mj : Me, Ch (fun x => x = 319) m mj → ∀ v : Int32, (v = nI 0 → Gd (qS P (gI m 316) t) f g (wW (gI m 321))) → ∀ x5 x6 : Option Value, v = nI 0 → Go mX12_isOpen (fun o m' => o = some (.int (pit (Gd (qS P (gI m 316) t) f g (wW (gI m 321))) (nI 0) (nI 1))) ∧ Ch (fun x => x = 319) m m') 89 [some (.ref 274), some (.int (nI (nm f))), some (.int (nI (nm g))), some (.int (nI t)), some (.int v), x5, x6] [] mj 0 0 := by
        intro mj cj v hv x5 x6 e
        subst e
        refine go_iload (i := 4) rfl dX12_isOpen_89 ?_
        refine gz_eq (by omega) (tgt := 238) dX12_isOpen_91 (by decide) (fun h91 => ?_) (fun h91 => by exfalso; omega)
        refine go_iconst (v := nI 0) (by decide) dX12_isOpen_238 ?_
        refine go_zret rfl (by decide) ⟨Nat.zero_le _, Nat.zero_le _⟩ dX12_isOpen_239 ?_
        refine ⟨?_, cj⟩
        rw [pit_t (hv rfl)]
      have key : ∀ i, i ≤ 41 → ∀ mi : Me, Ch (fun x => x = 319) m mi → TI P (fun c => qS P (gI m 316) t c ∧ ¬ wW (gI m 321) c) f g (gI mi 319) → i ≤ cnt (LT P (gI mi 319)) 40 → ∀ x5 x6 : Option Value, Go mX12_isOpen (fun o m' => o = some (.int (pit (Gd (qS P (gI m 316) t) f g (wW (gI m 321))) (nI 0) (nI 1))) ∧ Ch (fun x => x = 319) m m') 89 [some (.ref 274), some (.int (nI (nm f))), some (.int (nI (nm g))), some (.int (nI t)), some (.int (nI 1)), x5, x6] [] mi 0 0 := by
        refine loop_up 41 ?_ ?_
        · intro mi cj hT hk x5 x6
          have := cnt_le (p := LT P (gI mi 319)) 40
          exfalso; omega
        · intro i hi ih mi cj hT hk x5 x6
          refine go_iload (i := 4) rfl dX12_isOpen_89 ?_
          refine gz_eq (by omega) (tgt := 238) dX12_isOpen_91 (by decide) (fun h91 => by exfalso; omega) (fun h91 => ?_)
          refine go_iconst (v := nI 0) (by decide) dX12_isOpen_94 ?_
          refine go_istore (i := 4) dX12_isOpen_95 (nle rfl) (nle rfl) ?_
          refine go_iconst (v := nI 0) (by decide) dX12_isOpen_97 ?_
          refine go_istore (i := 5) dX12_isOpen_98 (nle rfl) (nle rfl) ?_
          have key2 : ∀ y, y ≤ P.rw → ∀ (mj : Me) (v : Int32), Ch (fun x => x = 319) m mj → TI P (fun c => qS P (gI m 316) t c ∧ ¬ wW (gI m 321) c) f g (gI mj 319) → SW P (fun c => qS P (gI m 316) t c ∧ ¬ wW (gI m 321) c) g (gI mi 319) (gI mj 319) (8 * y) v → ∀ x6 : Option Value, Go mX12_isOpen (fun o m' => o = some (.int (pit (Gd (qS P (gI m 316) t) f g (wW (gI m 321))) (nI 0) (nI 1))) ∧ Ch (fun x => x = 319) m m') 100 [some (.ref 274), some (.int (nI (nm f))), some (.int (nI (nm g))), some (.int (nI t)), some (.int v), some (.int (nI y)), x6] [] mj 0 0 := by
            refine loop_up P.rw ?_ ?_
            · intro mj v cj hT hW x6
              have hx := CX12 cj hx0
              have hm := md1 cj hm0
              refine go_iload (i := 5) rfl dX12_isOpen_100 ?_
              refine go_aload_n (q := 0) (i := 0) rfl rfl dX12_isOpen_102 ?_
              refine go_getR lf12_49 rfl hx.o hx.r24 dX12_isOpen_103 ?_
              refine go_aload_n (q := 0) (i := 0) rfl rfl dX12_isOpen_106 ?_
              refine go_getI lf12_260 rfl hx.o dX12_isOpen_107 ?_
              rw [hm.li]
              refine go_iald (j := lv) hx.i24 (by omega) (by first | decide | omega) rfl dX12_isOpen_110 ?_
              rw [hm.rw]
              refine gn_ge (by omega) (by omega) (tgt := 235) dX12_isOpen_111 (by decide) (fun h111 => ?_) (fun h111 => by exfalso; omega)
              refine go_goto (tgt := 89) dX12_isOpen_235 (by decide) ?_
              rcases hW with ⟨rfl, h2, h3⟩ | ⟨rfl, h2, c, h3, h4, h5⟩
              · refine out mj cj (nI 0) ?_ _ _ rfl
                intro _
                rw [h2] at hT
                exact wR_shut (T := gI mi 319) (fun c z => z.1.2.1) hT.2.1 hT.2.2 (fun c l => h3 c (by have := l.2; omega) l) (Classical.byContradiction (fun z => by
                  rcases h3 g (by have := hlg.2; omega) hlg with y | y | y
                  · exact y hT.2.2
                  · exact z (Or.inl y)
                  · exact y.1 rfl))
              · refine ih _ cj hT ?_ _ _
                have := cnt_lt h2 h4 h5 40 h3
                omega
            · intro y hy ihy mj v cj hT hW x6
              have hx := CX12 cj hx0
              have hm := md1 cj hm0
              refine go_iload (i := 5) rfl dX12_isOpen_100 ?_
              refine go_aload_n (q := 0) (i := 0) rfl rfl dX12_isOpen_102 ?_
              refine go_getR lf12_49 rfl hx.o hx.r24 dX12_isOpen_103 ?_
              refine go_aload_n (q := 0) (i := 0) rfl rfl dX12_isOpen_106 ?_
              refine go_getI lf12_260 rfl hx.o dX12_isOpen_107 ?_
              rw [hm.li]
              refine go_iald (j := lv) hx.i24 (by omega) (by first | decide | omega) rfl dX12_isOpen_110 ?_
              rw [hm.rw]
              refine gn_ge (by omega) (by omega) (tgt := 235) dX12_isOpen_111 (by decide) (fun h111 => by exfalso; omega) (fun h111 => ?_)
              refine go_iconst (v := nI 0) (by decide) dX12_isOpen_114 ?_
              refine go_istore (i := 6) dX12_isOpen_115 (nle rfl) (nle rfl) ?_
              have key3 : ∀ x, x ≤ P.wd → ∀ (mj : Me) (v : Int32), Ch (fun x => x = 319) m mj → TI P (fun c => qS P (gI m 316) t c ∧ ¬ wW (gI m 321) c) f g (gI mj 319) → SW P (fun c => qS P (gI m 316) t c ∧ ¬ wW (gI m 321) c) g (gI mi 319) (gI mj 319) (8 * y + x) v → Go mX12_isOpen (fun o m' => o = some (.int (pit (Gd (qS P (gI m 316) t) f g (wW (gI m 321))) (nI 0) (nI 1))) ∧ Ch (fun x => x = 319) m m') 117 [some (.ref 274), some (.int (nI (nm f))), some (.int (nI (nm g))), some (.int (nI t)), some (.int v), some (.int (nI y)), some (.int (nI x))] [] mj 0 0 := by
                refine loop_up P.wd ?_ ?_
                · intro mj v cj hT hW
                  have hx := CX12 cj hx0
                  have hm := md1 cj hm0
                  refine go_iload (i := 6) rfl dX12_isOpen_117 ?_
                  refine go_aload_n (q := 0) (i := 0) rfl rfl dX12_isOpen_119 ?_
                  refine go_getR lf12_46 rfl hx.o hx.r23 dX12_isOpen_120 ?_
                  refine go_aload_n (q := 0) (i := 0) rfl rfl dX12_isOpen_123 ?_
                  refine go_getI lf12_260 rfl hx.o dX12_isOpen_124 ?_
                  rw [hm.li]
                  refine go_iald (j := lv) hx.i23 (by omega) (by first | decide | omega) rfl dX12_isOpen_127 ?_
                  rw [hm.wd]
                  refine gn_ge (by omega) (by omega) (tgt := 229) dX12_isOpen_128 (by decide) (fun h128 => ?_) (fun h128 => by exfalso; omega)
                  refine gn_inc (i := 5) (a := y) (q := 1) rfl dX12_isOpen_229 (nle rfl) rfl ?_
                  refine go_goto (tgt := 100) dX12_isOpen_232 (by decide) ?_
                  exact ihy _ _ cj hT (hW.end (fun c l z => by have := l.1; omega)) _
                · intro x hx_ ihx mj v cj hT hW
                  have hx := CX12 cj hx0
                  have hm := md1 cj hm0
                  refine go_iload (i := 6) rfl dX12_isOpen_117 ?_
                  refine go_aload_n (q := 0) (i := 0) rfl rfl dX12_isOpen_119 ?_
                  refine go_getR lf12_46 rfl hx.o hx.r23 dX12_isOpen_120 ?_
                  refine go_aload_n (q := 0) (i := 0) rfl rfl dX12_isOpen_123 ?_
                  refine go_getI lf12_260 rfl hx.o dX12_isOpen_124 ?_
                  rw [hm.li]
                  refine go_iald (j := lv) hx.i23 (by omega) (by first | decide | omega) rfl dX12_isOpen_127 ?_
                  rw [hm.wd]
                  refine gn_ge (by omega) (by omega) (tgt := 229) dX12_isOpen_128 (by decide) (fun h128 => by exfalso; omega) (fun h128 => ?_)
                  refine go_aload_n (q := 0) (i := 0) rfl rfl dX12_isOpen_131 ?_
                  refine go_getR lf12_152 rfl hx.o hx.r65 dX12_isOpen_132 ?_
                  refine go_bipush (v := nI 8) (by decide) dX12_isOpen_135 ?_
                  refine go_iload (i := 5) rfl dX12_isOpen_137 ?_
                  refine gn_mul dX12_isOpen_139 ?_
                  refine go_iload (i := 6) rfl dX12_isOpen_140 ?_
                  refine gn_add dX12_isOpen_142 ?_
                  refine go_zald (j := ((8 * y) + x)) hx.i65 (by omega) (by first | decide | omega) rfl dX12_isOpen_143 ?_
                  refine go_if_ne (tgt := 223) dX12_isOpen_144 (by decide) (fun h144 => ?_) (fun h144 => ?_)
                  · skip
                    refine gn_inc (i := 6) (a := x) (q := 1) rfl dX12_isOpen_223 (nle rfl) rfl ?_
                    refine go_goto (tgt := 117) dX12_isOpen_226 (by decide) ?_
                    exact ihx _ _ cj hT (hW.skip (n := 8 * y + x) (Or.inl h144))
                  · skip
                    refine go_aload_n (q := 0) (i := 0) rfl rfl dX12_isOpen_147 ?_
                    refine go_iload (i := 6) rfl dX12_isOpen_148 ?_
                    refine go_iload (i := 5) rfl dX12_isOpen_150 ?_
                    refine go_callV okmX12_isNext lmX12_453 ⟨nle rfl, nle rfl⟩ hx.o ⟨by decide, rfl⟩ (ex_isNext hx hm ok hx_ hy) npmX12_isNext rfl (nle rfl) ⟨nle rfl, nle rfl⟩ dX12_isOpen_152 ?_
                    rintro _ mz ⟨rfl, hz⟩
                    subst mz
                    refine go_c1 ?_
                    refine go_if_ne (tgt := 161) dX12_isOpen_155 (by decide) (fun h155 => ?_) (fun h155 => ?_)
                    · skip
                      refine go_bipush (v := nI 10) (by decide) dX12_isOpen_161 ?_
                      refine go_iload (i := 5) rfl dX12_isOpen_163 ?_
                      refine gn_mul dX12_isOpen_165 ?_
                      refine go_iload (i := 6) rfl dX12_isOpen_166 ?_
                      refine gn_add dX12_isOpen_168 ?_
                      refine go_iload_n (q := 2) (i := 2) rfl rfl dX12_isOpen_169 ?_
                      refine gn_ne (by omega) (by omega) (tgt := 175) dX12_isOpen_170 (by decide) (fun h170 => ?_) (fun h170 => ?_)
                      · skip
                        refine go_aload_n (q := 0) (i := 0) rfl rfl dX12_isOpen_175 ?_
                        refine go_getR lf12_143 rfl hx.o hx.r59 dX12_isOpen_176 ?_
                        refine go_bipush (v := nI 8) (by decide) dX12_isOpen_179 ?_
                        refine go_iload (i := 5) rfl dX12_isOpen_181 ?_
                        refine gn_mul dX12_isOpen_183 ?_
                        refine go_iload (i := 6) rfl dX12_isOpen_184 ?_
                        refine gn_add dX12_isOpen_186 ?_
                        refine go_iald (j := ((8 * y) + x)) hx.i59 (by omega) (by first | decide | omega) rfl dX12_isOpen_187 ?_
                        rw [show gI mj 316 = gI m 316 from cj.at (by omega)]
                        refine go_iload_n (q := 3) (i := 3) rfl rfl dX12_isOpen_188 ?_
                        refine go_icmp_lt (tgt := 223) dX12_isOpen_189 (by decide) (fun h189 => ?_) (fun h189 => ?_)
                        · skip
                          refine gn_inc (i := 6) (a := x) (q := 1) rfl dX12_isOpen_223 (nle rfl) rfl ?_
                          refine go_goto (tgt := 117) dX12_isOpen_226 (by decide) ?_
                          exact ihx _ _ cj hT (hW.skip (n := 8 * y + x) (Or.inr (Or.inr ⟨fun e => h170 (by rw [← e, nm_ab (show x < 8 by omega)]), fun z => absurd h189 (Int32.not_lt.mpr z.1.2.2)⟩)))
                        · skip
                          refine go_aload_n (q := 0) (i := 0) rfl rfl dX12_isOpen_192 ?_
                          refine go_iload (i := 6) rfl dX12_isOpen_193 ?_
                          refine go_iload (i := 5) rfl dX12_isOpen_195 ?_
                          refine go_callV okmX12_isWatched lmX12_459 ⟨nle rfl, nle rfl⟩ hx.o ⟨by decide, rfl⟩ (ex_isWatched hx (by omega)) npmX12_isWatched rfl (nle rfl) ⟨nle rfl, nle rfl⟩ dX12_isOpen_197 ?_
                          rintro _ mz ⟨rfl, hz⟩
                          subst mz
                          rw [show gI mj 321 = gI m 321 from cj.at (by omega)]
                          refine go_c1 ?_
                          refine go_if_eq (tgt := 206) dX12_isOpen_200 (by decide) (fun h200 => ?_) (fun h200 => ?_)
                          · skip
                            refine go_aload_n (q := 0) (i := 0) rfl rfl dX12_isOpen_206 ?_
                            refine go_getR lf12_152 rfl hx.o hx.r65 dX12_isOpen_207 ?_
                            refine go_bipush (v := nI 8) (by decide) dX12_isOpen_210 ?_
                            refine go_iload (i := 5) rfl dX12_isOpen_212 ?_
                            refine gn_mul dX12_isOpen_214 ?_
                            refine go_iload (i := 6) rfl dX12_isOpen_215 ?_
                            refine gn_add dX12_isOpen_217 ?_
                            refine go_iconst (v := nI 1) (by decide) dX12_isOpen_218 ?_
                            refine go_zast (j := ((8 * y) + x)) hx.i65 (by omega) (by first | decide | omega) rfl (by decide) dX12_isOpen_219 ?_
                            refine go_iconst (v := nI 1) (by decide) dX12_isOpen_220 ?_
                            refine go_istore (i := 4) dX12_isOpen_221 (nle rfl) (nle rfl) ?_
                            refine gn_inc (i := 6) (a := x) (q := 1) rfl dX12_isOpen_223 (nle rfl) rfl ?_
                            refine go_goto (tgt := 117) dX12_isOpen_226 (by decide) ?_
                            have e : ¬ 8 * y + x = g := fun e => h170 (by rw [← e, nm_ab (show x < 8 by omega)])
                            exact ihx _ _ (cj.tr (Ch.I rfl)) (by rw [gI_s]; exact hT.set (wR_nxt hT.1 (pnz h155) ⟨⟨by omega, ⟨by omega, by omega⟩, Int32.not_lt.mp h189⟩, pz.mp h200⟩) e) (by rw [gI_s]; exact hW.set (n := 8 * y + x) (by omega) ⟨by omega, by omega⟩ h144)
                          · skip
                            refine go_goto (tgt := 223) dX12_isOpen_203 (by decide) ?_
                            refine gn_inc (i := 6) (a := x) (q := 1) rfl dX12_isOpen_223 (nle rfl) rfl ?_
                            refine go_goto (tgt := 117) dX12_isOpen_226 (by decide) ?_
                            exact ihx _ _ cj hT (hW.skip (n := 8 * y + x) (Or.inr (Or.inr ⟨fun e => h170 (by rw [← e, nm_ab (show x < 8 by omega)]), fun z => z.2 (pnz h200)⟩)))
                      · skip
                        refine go_iconst (v := nI 1) (by decide) dX12_isOpen_173 ?_
                        refine go_zret rfl (by decide) ⟨Nat.zero_le _, Nat.zero_le _⟩ dX12_isOpen_174 ?_
                        refine ⟨?_, cj⟩
                        have e : 8 * y + x = g := by have := nm_ab (b := y) (show x < 8 by omega); rw [← this] at h170; exact nm_inj h170
                        have hnx := pnz h155
                        rw [e] at hnx
                        obtain ⟨n, z⟩ := wR_nxt hT.1 hnx (show qS P (gI m 316) t g ∧ ¬ wW (gI m 321) g from ⟨⟨hg4, hlg, hrg⟩, hwg⟩)
                        rw [pit_f (fun z' => z' n z)]
                    · skip
                      refine go_goto (tgt := 223) dX12_isOpen_158 (by decide) ?_
                      refine gn_inc (i := 6) (a := x) (q := 1) rfl dX12_isOpen_223 (nle rfl) rfl ?_
                      refine go_goto (tgt := 117) dX12_isOpen_226 (by decide) ?_
                      exact ihx _ _ cj hT (hW.skip (n := 8 * y + x) (Or.inr (Or.inl (pz.mp h155))))
              exact key3 0 (Nat.zero_le _) mj v cj hT hW
          exact key2 0 (Nat.zero_le _) mi (nI 0) cj hT (Or.inl ⟨rfl, rfl, fun c hc => absurd hc (Nat.not_lt_zero c)⟩) _
      have key1 : ∀ k, k ≤ 40 → ∀ mk : Me, Ch (fun x => x = 319) m mk → (∀ c, c < k → gI mk 319 c = nI 0) → Go mX12_isOpen (fun o m' => o = some (.int (pit (Gd (qS P (gI m 316) t) f g (wW (gI m 321))) (nI 0) (nI 1))) ∧ Ch (fun x => x = 319) m m') 47 [some (.ref 274), some (.int (nI (nm f))), some (.int (nI (nm g))), some (.int (nI t)), some (.int (nI k)), none, none] [] mk 0 0 := by
        refine loop_up 40 ?_ ?_
        · intro mk cj hk
          have hx := CX12 cj hx0
          have hm := md1 cj hm0
          refine go_iload (i := 4) rfl dX12_isOpen_47 ?_
          refine go_bipush (v := nI 40) (by decide) dX12_isOpen_49 ?_
          refine gn_ge (by omega) (by omega) (tgt := 68) dX12_isOpen_51 (by decide) (fun h51 => ?_) (fun h51 => by exfalso; omega)
          refine go_aload_n (q := 0) (i := 0) rfl rfl dX12_isOpen_68 ?_
          refine go_getR lf12_152 rfl hx.o hx.r65 dX12_isOpen_69 ?_
          refine go_bipush (v := nI 8) (by decide) dX12_isOpen_72 ?_
          refine go_iload_n (q := 1) (i := 1) rfl rfl dX12_isOpen_74 ?_
          refine go_bipush (v := nI 10) (by decide) dX12_isOpen_75 ?_
          refine gn_div (by omega) (by omega) (by omega) dX12_isOpen_77 ?_
          refine gn_mul dX12_isOpen_78 ?_
          refine go_iload_n (q := 1) (i := 1) rfl rfl dX12_isOpen_79 ?_
          refine go_bipush (v := nI 10) (by decide) dX12_isOpen_80 ?_
          refine gn_rem (by omega) (by omega) (by omega) dX12_isOpen_82 ?_
          refine gn_add dX12_isOpen_83 ?_
          refine go_iconst (v := nI 1) (by decide) dX12_isOpen_84 ?_
          refine go_zast (j := ((8 * (((nm f)) / 10)) + (((nm f)) % 10))) hx.i65 (by omega) (by first | decide | omega) rfl (by decide) dX12_isOpen_85 ?_
          refine go_iconst (v := nI 1) (by decide) dX12_isOpen_86 ?_
          refine go_istore (i := 4) dX12_isOpen_87 (nle rfl) (nle rfl) ?_
          refine key 0 (Nat.zero_le _) _ (cj.tr (Ch.I rfl)) ⟨fun d l => ?_, ?_, ?_⟩ (Nat.zero_le _) _ _
          · have l2 := l.2
            rw [gI_s] at l2
            by_cases e : d = f
            · rw [e]; exact ⟨0, rfl, ⟨hf4, hlf, hrf⟩, hwf⟩
            · rw [upd_ne (show d ≠ 8 * (nm f / 10) + nm f % 10 by rw [nmf]; exact e), hk d (ld_40 ok l.1)] at l2
              exact absurd nI_0 l2
          · rw [gI_s, nmf, upd_eq]; decide
          · rw [gI_s, nmf, upd_ne hfg, hk g hg4]; exact nI_0
        · intro k hk0 ihk mk cj hk
          have hx := CX12 cj hx0
          have hm := md1 cj hm0
          refine go_iload (i := 4) rfl dX12_isOpen_47 ?_
          refine go_bipush (v := nI 40) (by decide) dX12_isOpen_49 ?_
          refine gn_ge (by omega) (by omega) (tgt := 68) dX12_isOpen_51 (by decide) (fun h51 => by exfalso; omega) (fun h51 => ?_)
          refine go_aload_n (q := 0) (i := 0) rfl rfl dX12_isOpen_54 ?_
          refine go_getR lf12_152 rfl hx.o hx.r65 dX12_isOpen_55 ?_
          refine go_iload (i := 4) rfl dX12_isOpen_58 ?_
          refine go_iconst (v := nI 0) (by decide) dX12_isOpen_60 ?_
          refine go_zast (j := k) hx.i65 (by omega) (by first | decide | omega) rfl (by decide) dX12_isOpen_61 ?_
          refine gn_inc (i := 4) (a := k) (q := 1) rfl dX12_isOpen_62 (nle rfl) rfl ?_
          refine go_goto (tgt := 47) dX12_isOpen_65 (by decide) ?_
          exact ihk _ (cj.tr (Ch.I rfl)) (by rw [gI_s]; exact fl_up hk)
      exact key1 0 (Nat.zero_le _) m Ch.rf (fun c hc => absurd hc (Nat.not_lt_zero c))
    · skip
      refine go_iconst (v := nI 0) (by decide) dX12_isOpen_42 ?_
      refine go_zret rfl (by decide) ⟨Nat.zero_le _, Nat.zero_le _⟩ dX12_isOpen_43 ?_
      refine ⟨?_, Ch.rf⟩
      rw [pit_t (show Gd (qS P (gI m 316) t) f g (wW (gI m 321)) from wR_goal (fun z => absurd z.1.2.2 h39))]
