set_option maxRecDepth 100000 in
set_option maxHeartbeats 4000000 in
/-- THE LAW, from its entry -/
theorem whole_start {p : Program} {e : Env} {s : State} {m : MethodId} {below : List Frame} {meth : Method} {c : Code} (l : Launch) (hflags : l.flags = flags0) {b L : Nat} {xs : Nat → Int32} (hL : L ≤ 3072) (C0 : lw_At p s m meth c b L xs) : W p l e room_1 s m #[Value.ref b] below meth c s.heap [] 0 0 (lw_Z below #[Value.ref b] s) (entryFrame m ([Value.ref b] : List Value).toArray 4) := by
  obtain ⟨hx, hb, hr, hml, hown, hts, hX, hbl, hlocks, hnm, hgv⟩ := id C0
  obtain ⟨D, ty, f, hf, hK⟩ := kn_entry (fun w hw => hts w (List.mem_cons_of_mem _ hw)) hgv
  have C : Cx mL D ty (s.heap.size, f) p s m #[Value.ref b] meth c := ⟨hx, hb, hml, hr, hown, fun w hw => by
    rcases List.mem_cons.mp hw with h | h
    · rw [h]; exact hts _ List.mem_cons_self
    · exact hts w (List.mem_cons_of_mem _ (List.mem_filter.mp h).1), hlocks, hnm, hK, Nat.le_refl _⟩
  have X : Scr (s.heap.size, f) s b L xs := ⟨hf, hX, hbl, rfl⟩
  have key : GL D ty (s.heap.size, f) p l e s m b below meth c 0 [some (.retAddr 200), none, none, none] [] (0, fun _ _ => 0, fun _ _ => 0, fun _ _ => none) 0 0 := by
    have hz : Zr 0 (fun _ _ => 0) (fun _ _ => 0) (fun _ _ => none) := fun x _ => ⟨rfl, rfl, rfl⟩
    refine gl_newE C (ci := 11) hz (wg1 20 rfl rfl) (by decide) (wg1 21 rfl rfl) (wg1 1 rfl rfl) (by decide +kernel) ⟨nle rfl, nle rfl⟩ dL_law_0 ?_
    refine gl_dup C rfl dL_law_3 ?_
    refine gl_callI C okmX11_init lmL_9 ⟨nle rfl, nle rfl⟩ rfl (ev_i11 hz) npmX11_init rfl (nle rfl) ⟨nle rfl, nle rfl⟩ dL_law_4 ?_
    rintro _ ⟨n1, I1, J1, R1⟩ - ⟨rfl, hC⟩
    have hn1 : n1 = 274 := hC.1
    subst hn1
    have c10 : Zr 274 I1 J1 R1 := hC.2.2.2.2.2.2.2.2
    refine gl_cN (c' := 274) (z' := 10401) rfl rfl ?_
    refine gl_astore_n C (q := 1) (i := 1) rfl dL_law_7 (nle rfl) (nle rfl) ?_
    refine gl_newE C (ci := 12) c10 (wg5 188 rfl rfl) (by decide) (wg5 189 rfl rfl) (wg1 17 rfl rfl) (by decide +kernel) ⟨nle rfl, nle rfl⟩ dL_law_8 ?_
    refine gl_dup C rfl dL_law_11 ?_
    refine gl_callI C okmX12_init lmL_12 ⟨nle rfl, nle rfl⟩ rfl (ev_i12 (c10.le (by decide)) (c10 274 (Nat.le_refl _)).1) npmX12_init rfl (nle rfl) ⟨nle rfl, nle rfl⟩ dL_law_12 ?_
    rintro _ m2 - ⟨rfl, hR⟩
    refine gl_cN (c' := 328) (z' := 27773) rfl rfl ?_
    refine gl_astore_n C (q := 2) (i := 2) rfl dL_law_15 (nle rfl) (nle rfl) ?_
    refine gl_iconst C (v := nI 0) (by decide) dL_law_16 ?_
    refine gl_istore_n C (q := 3) (i := 3) rfl dL_law_17 (nle rfl) (nle rfl) ?_
    have hRl : Rl (48 * 0) m2 := start_rl hC (by
      rw [nw_e c10]
      rw [up_id (c10 274 (Nat.le_refl _)).2.2] at hR
      exact hR)
    exact gl_L (LLs (6 * 0)) rfl (law_loop C X hL (L + 6) 0 m2 hRl (by omega) (by omega))
  have hl := lv_entry ([.ref b]) (n := 4) (Nat.le_of_ble_eq_true rfl)
  rw [lg_entry_eq]
  generalize (lg_sl ([.ref b]) ++ List.replicate (4 - (lg_sl ([.ref b])).length) Slot.unset).toArray = ls at hl ⊢
  refine key s.heap [] ls ?_ ⟨fun k q h => by simp [wo] at h, rfl⟩ va_S.rf
  show lv_has ls 4 [(0, cv (s.heap.size, f) (.retAddr 200))]
  rw [scr_cv X]
  exact hl
set_option maxHeartbeats 4000000 in
theorem lw_walk (l : Launch) (hflags : l.flags = flags0) (b : Addr) (xs : List Int32) : MetFree l x (headSpec (Jvm.Cond.code x code maxLocals ret :: tables_1) room_1) (lw_P b xs) (fun _ _ _ _ _ => True) lw_Q := by
  refine MetFree.of_bodyS (code := code) (maxLocals := maxLocals) (ret := ret) (by decide) ?_ ?_
  · intro args s m h hn
    obtain ⟨meth, c, h1, h2, h3, h4, h5, h6, -, -⟩ := Cond.code_spec hn (atoms_spec (ws := Jvm.Cond.code x code maxLocals ret :: tables_1) h _ List.mem_cons_self)
    exact ⟨meth, c, h1, h2, h3, h4, h5, h6⟩
  · intro p e s m args below meth c s₁ B hml0 hP _
    obtain ⟨rfl, hx, hbd, hgv⟩ := hP
    obtain ⟨scr, harrAt, hlist, hof, hsmall⟩ := hx
    obtain ⟨hcb, hkn, -, -⟩ := State.arrayAt?_spec harrAt
    have hown : s.vm.findClass R_law = some m.cls := findClass_of_methodNamed B.named
    have hts0 : ∀ c ∈ (Jvm.Cond.code x code maxLocals ret :: tables_1), c.before #[Value.ref b] s = true := atoms_spec (ws := Jvm.Cond.code x code maxLocals ret :: tables_1) B.pre
    have hts : ∀ w ∈ lw_tbl, w.before #[Value.ref b] s = true := k2_hts_sels lw_privs (fun w hw => hts0 w (List.mem_cons_of_mem _ hw)) lw_privs_ok
    have hml : c.maxLocals = 4 := B.maxLocals_eq (hts0 _ List.mem_cons_self)
    have X₀ : Stand p l e room_1 s m #[Value.ref b] below meth c s₁ [] 0 0 := Stand.of_body B
    have hh0 : s₁.heap = s.heap := by rw [B.state]; rfl
    have hsz : scr.slots.size = xs.length := by rw [← Array.length_toList, hlist, List.length_map]
    have hval : ∀ j : Nat, j < xs.length → scr.slots[j]? = some (.int (xs.getD j 0)) := fun j hj => by
      rw [← Array.getElem?_toList, hlist]
      simp [hj]
    have hbl : b < s.heap.size := (Array.getElem?_eq_some_iff.mp hcb).1
    have hX : va_X b xs.length (fun j => xs.getD j 0) s s.heap := ⟨scr, hcb, hof, hkn, hsz, hval⟩
    have K : W p l e room_1 s m #[Value.ref b] below meth c s₁.heap [] 0 0 (lw_Z below #[Value.ref b] s) (entryFrame m ([Value.ref b] : List Value).toArray 4) := by
      rw [hh0]
      exact whole_start l hflags hbd ⟨B.exec, B.bytes, B.returns, hml, hown, fun w hw => (List.mem_cons.mp hw).elim (fun h => h ▸ hts0 _ List.mem_cons_self) (hts w), hX, hbl, B.notSynchronized, (name_of_methodNamed B.named B.method).1, hgv⟩
    obtain ⟨t, a1, o, b1, b2, b3⟩ := K s₁ rfl X₀
    exact ⟨t, o, a1, b1, b2, b3⟩
theorem lw_pre_spec {args : Array Value} {s : State} (h : (Jvm.Cond.and given_1 narrow_1).before args s = true) (hr : rest_1_c.before args s = true) : ∃ (b : Addr) (xs : List Int32), lw_P b xs args s := by
  have hs := flat_of_before _ h
  have hq := flat_of_before _ hr
  have hc : (Cond.count 1).before args s = true := hs _ (by decide +kernel)
  have harr : (Cond.arrayOf (.arg 0) .int).before args s = true := hs _ (by decide +kernel)
  have hle : (Cond.le (.length (.arg 0)) (.int 3072)).before args s = true := hs _ (by decide +kernel)
  have hlen : (Cond.isInt (.length (.arg 0))).before args s = true := hq _ (by decide +kernel)
  have hall : (Cond.all (.arg 0) (.isInt (.elem (.arg 0) (.index 0)))).before args s = true := hq _ (by decide +kernel)
  obtain ⟨b, xs, hb, hx⟩ := State.ints_of_pre rfl harr hlen hall
  have hsm : xs.length < 2 ^ 31 := hx.choose_spec.2.2.2
  have hev : (Term.length (.arg 0)).eval args s none [] s = some (.int xs.length.toInt32) := hx.length_eval hb
  have hv := Cond.le_ints hev (show (Term.int 3072).eval args s none [] s = some (.int 3072) from rfl)
  have hd : xs.length.toInt32 ≤ 3072 := by
    simpa [Cond.before, Cond.holds, hv] using hle
  have hN : xs.length ≤ 3072 := (Int32.ofNat_le_ofNat hsm (by decide)).mp (show Int32.ofNat xs.length ≤ Int32.ofNat 3072 from hd)
  exact ⟨b, xs, Cond.one_arg hc (show args[0]? = some (.ref b) from hb), hx, hN, h⟩
theorem lw_comes (l : Launch) (hflags : l.flags = flags0) : Comes l x (Jvm.Cond.code x code maxLocals ret :: tables_1) room_1 (fun tb e args s => Calls_1 tb e args s ∧ rest_1 tb e args s ∧ Pre_1 tb e args s)
    (fun _ _ args s o t => lw_Q args s o t) := by
  intro p e ha hc hk s m args below hf hfit hheap happ hpre
  obtain ⟨b, xs, hP⟩ := lw_pre_spec hpre.2.2 hpre.2.1
  obtain ⟨k, o, h1, h2, h3, hQ⟩ := lw_walk l hflags b xs p e ha hc hk s m args below hf ((Spec.applies_iff_loose hf).mp happ).1 hP trivial
  exact ⟨k, o, h1, h2, h3, hQ⟩
theorem lw_frame {s t : State} {o : Outcome} {args : Array Value} (h : Framed s o t [] 600000 7302249) :
    Framed s o t (fieldLocs frame_1_writes args s ++ arrayLocs frame_1_arrays args s ++ staticLocs frame_1_statics s) 600000 7302249 := h
theorem lw_limb (L : Cond) (hL : ∀ (args : Array Value) (s t : State), L.after args s (.returned (some (.int 1))) t = true) :
    ArmFor flags0 classFile x code maxLocals ret World_1 tables_1 room_1 Calls_1 rest_1 Pre_1
      (fun tb e a s o t => postC L tb e a s o t ∧ Framed s o t (fieldLocs frame_1_writes a s ++ arrayLocs frame_1_arrays a s ++ staticLocs frame_1_statics s) 600000 7302249) := by
  intro l hflags _ _ p e ha hc hk s m args below hf hfit hheap happ hpre
  obtain ⟨k, o, h1, h2, h3, rfl, hF⟩ := lw_comes l hflags p e ha hc hk s m args below hf hfit hheap happ hpre
  exact ⟨k, _, h1, h2, h3, hL args s _, lw_frame hF⟩
theorem i_vc : Claimed_1_1 ∧ Claimed_1_2 := ⟨lw_limb limb_1_1 (fun args s t => by simp [limb_1_1, Cond.after, Cond.holds, Cond.value]), lw_limb limb_1_2 (fun args s t => Cond.after_iff.mpr (by
  first | (rw [show limb_1_2 = Cond.eq .result (.int 1) from rfl, Cond.eq_ints (x := 1) (y := 1) rfl rfl]; simp; done) | (simp [limb_1_2, Cond.value, Term.eval]; done)))⟩
