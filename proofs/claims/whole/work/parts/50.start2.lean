/-! the start -/
theorem inst_c : ∀ c, c < 10 → Cond.instantiable (CC c) (nfl c) ∈ lw_tbl := by
  intro c hc
  match c, hc with
  | 0, _ => obtain ⟨_, _, _, _, h, _⟩ := d_X8_init_46; exact h
  | 1, _ => obtain ⟨_, _, _, _, h, _⟩ := d_X8_init_71; exact h
  | 2, _ => obtain ⟨_, _, _, _, h, _⟩ := d_X0_init_22; exact h
  | 3, _ => obtain ⟨_, _, _, _, h, _⟩ := d_X8_init_4; exact h
  | 4, _ => obtain ⟨_, _, _, _, h, _⟩ := d_X8_init_12; exact h
  | 5, _ => obtain ⟨_, _, _, _, h, _⟩ := d_X8_init_83; exact h
  | 6, _ => obtain ⟨_, _, _, _, h, _⟩ := d_X8_init_58; exact h
  | 7, _ => obtain ⟨_, _, _, _, h, _⟩ := d_X8_init_20; exact h
  | 8, _ => obtain ⟨_, _, _, _, h, _⟩ := d_law_0; exact h
  | 9, _ => obtain ⟨_, _, _, _, h, _⟩ := d_law_8; exact h
  | c + 10, h => exact absurd h (by omega)
theorem vw_10 {c : Nat} {q : vw_C} (h : vwCl[c]? = some q) : c < 10 ∧ q = (CC c, TT c, nfl c) := by
  have hc : c < 10 := (List.getElem?_eq_some_iff.mp h).1
  exact ⟨hc, Option.some.inj (h.symm.trans (clC c hc))⟩
theorem w8_0 : ∀ k, 23 ≤ k → ∀ j, w8.1 k j = 0 := by
  intro k hk j
  simp only [w8, w8d, w8c, w8b, w8a, wX5, wX6, wX4, wX3, fX2, fillS, sI, sL, S00]
  repeat rw [if_neg (fun z => by omega)]
theorem arr_c {s : State} {args : Array Value} {ty : FieldType} (h : (Cond.arrayClass ty).before args s = true) (hty : ty = .int ∨ ty = .boolean) : ∃ cA : ClassId, ArrOfT s cA ty ∧ va_RA s cA ty := by
  obtain ⟨cA, kA, comp, h1, h2, h3⟩ := Cond.arrayClass_spec h
  refine ⟨cA, fun n z => ⟨fun k h => (by cases h), kA, h2, comp, h3⟩, ?_⟩
  rcases hty with rfl | rfl
  · exact h1
  · exact h1
set_option maxRecDepth 100000 in
theorem law_V {G : Gm} {b L : Nat} {xs : Nat → Int32} (hL : L ≤ 384) : V G M_law 0 35 (ZL b L xs) 0 R00 0 [some (.ref b), none, none, none] [] S00 := by
  refine V_new d_law_0 rfl (fun _ => rfl) (fun _ => rfl) (fun _ => rfl) (by decide) (Nat.le_refl _) ?_
  refine V_dup d_law_3 rfl ?_
  refine V_ci0 d_law_4 (c_X8_init (G := G)) ⟨Nat.le_of_ble_eq_true rfl, by omega, by omega, by omega⟩ ?_
  refine V_as1 d_law_7 rfl ?_
  refine V_new d_law_8 rfl (fun _ => rfl) (fun _ => rfl) (fun _ => rfl) (by decide) (by decide) ?_
  refine V_dup d_law_11 rfl ?_
  refine V_ci0 d_law_12 (c_X9_init (G := G) (ρ := r8) (S := w8) w8_0) ⟨Nat.le_of_ble_eq_true rfl, by omega, by omega, by omega⟩ ?_
  refine V_as2 d_law_15 rfl ?_
  refine V_rho (fun k hk j hj => r89_0 k hk j hj) ?_
  refine V_ki d_law_16 ?_
  refine V_is3 d_law_17 rfl ?_
  exact law_loop hL L 0 w89 (by omega) (by omega) rel_0
set_option maxHeartbeats 4000000 in
theorem whole_start {p : Program} {e : Env} {s : State} {m : MethodId} {below : List Frame} {meth : Method} {c : Code} (l : Launch) {b L : Nat} {xs : Nat → Int32} (hL : L ≤ 384) (C0 : lw_At p s m meth c b L xs) : W p l e room_1 s m #[Value.ref b] below meth c s.heap [] 0 0 (lw_Z below #[Value.ref b] s) (entryFrame m ([Value.ref b] : List Value).toArray 4) := by
  obtain ⟨hx, hb, hr, hml, hown, hts, hX, hbl, hlocks, hnm⟩ := C0
  have hKn : ∀ c, c < 10 → ∃ q : ClassId × (Nat → Nat), u_Kn s (CC c) (TT c) (nfl c) q.1 q.2 := fun c hc => by
    obtain ⟨cC, iS, h⟩ := u_known (C := CC c) (T := TT c) (N := nfl c) (n := nfl c) hts (fun w hw => (clW c hc w hw).1) (hts _ (inst_c c hc))
    exact ⟨(cC, iS), h⟩
  have hKn2 : ∀ c : Nat, ∃ q : ClassId × (Nat → Nat), c < 10 → u_Kn s (CC c) (TT c) (nfl c) q.1 q.2 := fun c => by
    by_cases hc : c < 10
    · obtain ⟨q, h⟩ := hKn c hc
      exact ⟨q, fun _ => h⟩
    · obtain ⟨q, h⟩ := hKn 0 (by decide)
      exact ⟨q, fun z => absurd z hc⟩
  obtain ⟨f, hf⟩ := Classical.axiomOfChoice hKn2
  obtain ⟨ci, hi1, hi2⟩ := arr_c (hts (Cond.arrayClass .int) (List.mem_append_right _ (List.mem_of_getElem? (i := 44) (by decide +kernel)))) (Or.inl rfl)
  obtain ⟨cb, hb1, hb2⟩ := arr_c (hts (Cond.arrayClass .boolean) (List.mem_append_right _ (List.mem_of_getElem? (i := 775) (by decide +kernel)))) (Or.inr rfl)
  have hK : va_K (gD ((l, (s.heap.size, ((fun k => (f k).1, fun k => (f k).2), (ci, cb)))) : Gm)) vwCl (tysG ((l, (s.heap.size, ((fun k => (f k).1, fun k => (f k).2), (ci, cb)))) : Gm)) s := by
    refine ⟨fun k q hq => ?_, fun k q hk => ?_⟩
    · obtain ⟨h1, rfl⟩ := vw_10 hq
      exact hf k h1
    · match k, hk with
      | 0, hk => cases hk; exact ⟨hi1, hi2⟩
      | 1, hk => cases hk; exact ⟨hb1, hb2⟩
      | k + 2, hk => simp [tysG] at hk
  have E : EF ((l, (s.heap.size, ((fun k => (f k).1, fun k => (f k).2), (ci, cb)))) : Gm) M_law 0 (ZL b L xs).2 p s m #[Value.ref b] meth c := ⟨hx, hb, hml, hr, hlocks, hown, hnm, KW_start hts, hK, rfl, ⟨rfl, hX, hbl⟩⟩
  rw [lg_entry_eq]
  have h := law_V (G := (l, (s.heap.size, ((fun k => (f k).1, fun k => (f k).2), (ci, cb))))) (b := b) (xs := xs) hL p e s m #[Value.ref b] below meth c E s.heap [] _ ⟨rfl, fun k hk => absurd hk (Nat.not_lt_zero _)⟩ va_S.rf ⟨lv_entry ([.ref b]) (n := 4) (Nat.le_of_ble_eq_true rfl), Nat.le_refl _⟩
  rw [SZ_35] at h
  exact h
set_option maxHeartbeats 4000000 in
theorem lw_walk (l : Launch) (hflags : l.flags = flags0) (b : Addr) (xs : List Int32) : MetFree l x (headSpec (Jvm.Cond.code x code maxLocals ret :: tables_1) room_1) (lw_P b xs) (fun _ _ _ _ _ => True) lw_Q := by
  refine MetFree.of_bodyS (code := code) (maxLocals := maxLocals) (ret := ret) (by decide) ?_ ?_
  · intro args s m h hn
    obtain ⟨meth, c, h1, h2, h3, h4, h5, h6, -, -⟩ := Cond.code_spec hn (atoms_spec (ws := Jvm.Cond.code x code maxLocals ret :: tables_1) h _ List.mem_cons_self)
    exact ⟨meth, c, h1, h2, h3, h4, h5, h6⟩
  · intro p e s m args below meth c s₁ B hml0 hP _
    obtain ⟨rfl, hx, hbd, hgv⟩ := hP
    obtain ⟨scr, harrAt, hlist, hof, hsmall⟩ := hx
    obtain ⟨hcb, hkn, -, -⟩ := State.arrayAt?_spec harrAt
    have hown : s.vm.findClass RL = some m.cls := findClass_of_methodNamed B.named
    have hts0 : ∀ c ∈ (Jvm.Cond.code x code maxLocals ret :: tables_1), c.before #[Value.ref b] s = true := atoms_spec (ws := Jvm.Cond.code x code maxLocals ret :: tables_1) B.pre
    have hts : ∀ w ∈ lw_tbl, w.before #[Value.ref b] s = true := k2_hts_sels lw_privs (fun w hw => hts0 w (List.mem_cons_of_mem _ hw)) lw_privs_ok
    have hml : c.maxLocals = 4 := B.maxLocals_eq (hts0 _ List.mem_cons_self)
    have X₀ : Stand p l e room_1 s m #[Value.ref b] below meth c s₁ [] 0 0 := Stand.of_body B
    have hh0 : s₁.heap = s.heap := by rw [B.state]; rfl
    have hsz : scr.slots.size = xs.length := by rw [← Array.length_toList, hlist, List.length_map]
    have hval : ∀ j : Nat, j < xs.length → scr.slots[j]? = some (.int (xs.getD j 0)) := fun j hj => by
      rw [← Array.getElem?_toList, hlist]
      simp [hj]
    have hbl : b < s.heap.size := (Array.getElem?_eq_some_iff.mp hcb).1
    have hX : va_X b xs.length (fun j => xs.getD j 0) s s.heap := ⟨scr, hcb, hof, hkn, hsz, hval⟩
    have K : W p l e room_1 s m #[Value.ref b] below meth c s₁.heap [] 0 0 (lw_Z below #[Value.ref b] s) (entryFrame m ([Value.ref b] : List Value).toArray 4) := by
      rw [hh0]
      exact whole_start l hbd ⟨B.exec, B.bytes, B.returns, hml, hown, hts, hX, hbl, B.notSynchronized, (name_of_methodNamed B.named B.method).1⟩
    obtain ⟨t, a1, o, b1, b2, b3⟩ := K s₁ rfl X₀
    exact ⟨t, o, a1, b1, b2, b3⟩
theorem lw_pre_spec {args : Array Value} {s : State} (h : (Jvm.Cond.and given_1 narrow_1).before args s = true) (hr : rest_1_c.before args s = true) : ∃ (b : Addr) (xs : List Int32), lw_P b xs args s := by
  have hs := flat_of_before _ h
  have hq := flat_of_before _ hr
  have hc : (Cond.count 1).before args s = true := hs _ (by decide +kernel)
  have harr : (Cond.arrayOf (.arg 0) .int).before args s = true := hs _ (by decide +kernel)
  have hle : (Cond.le (.length (.arg 0)) (.int 384)).before args s = true := hs _ (by decide +kernel)
  have hlen : (Cond.isInt (.length (.arg 0))).before args s = true := hq _ (by decide +kernel)
  have hall : (Cond.all (.arg 0) (.isInt (.elem (.arg 0) (.index 0)))).before args s = true := hq _ (by decide +kernel)
  obtain ⟨b, xs, hb, hx⟩ := State.ints_of_pre rfl harr hlen hall
  have hsm : xs.length < 2 ^ 31 := hx.choose_spec.2.2.2
  have hev : (Term.length (.arg 0)).eval args s none [] s = some (.int xs.length.toInt32) := hx.length_eval hb
  have hv := Cond.le_ints hev (show (Term.int 384).eval args s none [] s = some (.int 384) from rfl)
  have hd : xs.length.toInt32 ≤ 384 := by
    simpa [Cond.before, Cond.holds, hv] using hle
  have hN : xs.length ≤ 384 := (Int32.ofNat_le_ofNat hsm (by decide)).mp (show Int32.ofNat xs.length ≤ Int32.ofNat 384 from hd)
  exact ⟨b, xs, Cond.one_arg hc (show args[0]? = some (.ref b) from hb), hx, hN, h⟩
theorem lw_comes (l : Launch) (hflags : l.flags = flags0) : Comes l x (Jvm.Cond.code x code maxLocals ret :: tables_1) room_1 (fun tb e args s => Calls_1 tb e args s ∧ rest_1 tb e args s ∧ Pre_1 tb e args s)
    (fun _ _ args s o t => lw_Q args s o t) := by
  intro p e ha hc hk s m args below hf hfit hheap happ hpre
  obtain ⟨b, xs, hP⟩ := lw_pre_spec hpre.2.2 hpre.2.1
  obtain ⟨k, o, h1, h2, h3, hQ⟩ := lw_walk l hflags b xs p e ha hc hk s m args below hf ((Spec.applies_iff_loose hf).mp happ).1 hP trivial
  exact ⟨k, o, h1, h2, h3, hQ⟩
theorem lw_frame {s t : State} {o : Outcome} {args : Array Value} (h : Framed s o t [] 35 2036) :
    Framed s o t (fieldLocs frame_1_writes args s ++ arrayLocs frame_1_arrays args s ++ staticLocs frame_1_statics s) 35 2036 := h
theorem lw_limb (L : Cond) (hL : ∀ (args : Array Value) (s t : State), L.after args s (.returned (some (.int 1))) t = true) :
    ArmFor flags0 classFile x code maxLocals ret World_1 tables_1 room_1 Calls_1 rest_1 Pre_1
      (fun tb e a s o t => postC L tb e a s o t ∧ Framed s o t (fieldLocs frame_1_writes a s ++ arrayLocs frame_1_arrays a s ++ staticLocs frame_1_statics s) 35 2036) := by
  intro l hflags _ _ p e ha hc hk s m args below hf hfit hheap happ hpre
  obtain ⟨k, o, h1, h2, h3, rfl, hF⟩ := lw_comes l hflags p e ha hc hk s m args below hf hfit hheap happ hpre
  exact ⟨k, _, h1, h2, h3, hL args s _, lw_frame hF⟩
theorem i_vc : Claimed_1_1 ∧ Claimed_1_2 := ⟨lw_limb limb_1_1 (fun args s t => by simp [limb_1_1, Cond.after, Cond.holds, Cond.value]), lw_limb limb_1_2 (fun args s t => Cond.after_iff.mpr (by
  first | (rw [show limb_1_2 = Cond.eq .result (.int 1) from rfl, Cond.eq_ints (x := 1) (y := 1) rfl rfl]; simp; done) | (simp [limb_1_2, Cond.value, Term.eval]; done)))⟩
