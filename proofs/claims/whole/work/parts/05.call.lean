/-- a call of M with args in the world (n, ρ, S): it returns r, and the world is (n', ρ', S') -/
def Qe (G : Gm) (r : Option Value) (nE : Nat) (ρE : Rho) (SE : AS) : Array Value → State → Outcome → State → Prop := fun _ st o t => o = .returned r ∧ Pic G nE ρE SE t.heap ∧ va_F (fun q => gB G ≤ q) st t
def Zm (G : Gm) (r : Option Value) (n0 nE : Nat) (ρE : Rho) (SE : AS) : ZT := (fun below args s => MQ below (Qe G r nE ρE SE) args s (nE - n0) (SZ nE - SZ n0) (fun q => gB G ≤ q), fun _ _ => True)
def PcM (G : Gm) (n : Nat) (ρ : Rho) (S : AS) (args : List Value) : Array Value → State → Prop := va_Pc args (fun U => Pic G n ρ S U.heap ∧ KW U ∧ va_K (gD G) vwCl (tysG G) U)
def Rn (G : Gm) (M : MT) (args : List Value) (n : Nat) (ρ : Rho) (S : AS) (r : Option Value) (nE : Nat) (ρE : Rho) (SE : AS) : Prop :=
  Met G.1 (mY M) [Cond.code (mY M) (mC M) (mL M) (mR M)] (rmM M (nE - n) (SZ nE - SZ n)) (PcM G n ρ S args) (Qe G r nE ρE SE) (nE - n) (SZ nE - SZ n) (fun q => gB G ≤ q)
def MFv (M : MT) (cnt : Nat) : Prop := Cond.code (mY M) (mC M) (mL M) (mR M) ∈ lw_tbl ∧ Cond.initialized (mY M).cls ∈ lw_tbl ∧ ((mY M).cls ≠ "java/lang/invoke/MethodHandle" ∧ (mY M).cls ≠ "java/lang/invoke/VarHandle") ∧ (parseMethodDescriptor (mY M).desc).map (fun d => d.parameters.length) = some cnt
def LK (own : String) (idx : Nat) (Mc : MT) : Prop := Cond.methodLink own idx (mY Mc) ∈ lw_tbl ∨ Cond.methodLinkNest own idx (mY Mc) RX8 ∈ lw_tbl
def MFi (M : MT) : Prop := Cond.instanceMethod (mY M) ∈ lw_tbl ∧ Cond.selects (mY M).cls (mY M) (mY M) ∈ lw_tbl ∧ CC (mK M) = (mY M).cls ∧ mK M < 10
def RM (Mc M : MT) : Prop := mF Mc + 1 ≤ mF M ∧ 8 + (mL Mc + 11) + mLo Mc ≤ mLo M
def CV (M : MT) (pc : Nat) (Mc : MT) (cnt pc' : Nat) : Prop := ∃ idx, Dc M pc (.invokevirtual idx) 3 pc' ∧ LK (mO M) idx Mc ∧ MFv Mc cnt ∧ MFi Mc ∧ RM Mc M
def CS (M : MT) (pc : Nat) (Mc : MT) (cnt pc' : Nat) : Prop := ∃ idx, Dc M pc (.invokestatic idx) 3 pc' ∧ LK (mO M) idx Mc ∧ MFv Mc cnt ∧ Cond.static (mY Mc) ∈ lw_tbl ∧ RM Mc M
def CI (M : MT) (pc : Nat) (Mc : MT) (cnt pc' : Nat) : Prop := ∃ idx, Dc M pc (.invokespecial idx) 3 pc' ∧ LK (mO M) idx Mc ∧ MFv Mc cnt ∧ Cond.instanceMethod (mY Mc) ∈ lw_tbl ∧ (mY Mc).name = "<init>" ∧ mR Mc = none ∧ RM Mc M
theorem Pc_blind (G : Gm) (n : Nat) (ρ : Rho) (S : AS) (as : List Value) : FrameBlind (PcM G n ρ S as) := by
  intro a U g mk q
  obtain ⟨q0, q1, q2, q3⟩ := q
  exact ⟨q0, q1, KW_moved (s := U) (U := U.calling g mk a) (State.WarmedH.refl U) q2, va_K.moved (u := U) (U := U.calling g mk a) (Vm.Alike.refl U.vm) q3⟩
theorem Pc_now {G : Gm} {M : MT} {n0 : Nat} {Z2 : State → Array Value → Prop} {p : Program} {s : State} {m : MethodId} {args : Array Value} {meth : Method} {c : Code} (E : EF G M n0 Z2 p s m args meth c) {n : Nat} {ρ : Rho} {S : AS} {H : Heap} (hP : Pic G n ρ S H) (as : List Value) : ∀ U : State, U.heap = H → s.WarmedH U.vm → (PcM G n ρ S as) as.toArray U := by
  intro U hU hW
  exact ⟨rfl, by rw [hU]; exact hP, KW_moved hW E.2.2.2.2.2.2.2.1, va_K.moved hW.alike E.2.2.2.2.2.2.2.2.1⟩
theorem ws_code {Mc : MT} {s : State} (hK : KW s) (h : Cond.code (mY Mc) (mC Mc) (mL Mc) (mR Mc) ∈ lw_tbl) : ∀ w ∈ [Cond.code (mY Mc) (mC Mc) (mL Mc) (mR Mc)], ∀ (a' : Array Value) (U : State), s.WarmedH U.vm → w.before a' U = true := by
  intro w hw a' U hW
  rw [List.mem_singleton.mp hw]
  exact word_at hW (Or.inl rfl) (hK _ h rfl #[])
section VC
variable {G : Gm} {M : MT} {n0 nE : Nat} {Z : ZT} {n : Nat} {ρ : Rho} {pc pc' : Nat} {L : List (Option Value)} {st : List Value} {S : AS}
theorem V_run {p : Program} {e : Env} {s : State} {m : MethodId} {args : Array Value} {below : List Frame} {meth : Method} {c : Code} (E : EF G M n0 Z.2 p s m args meth c) {H : Heap} {locs : List Loc} {ls : Array Slot} (hS : va_S (fun q => gB G ≤ q) s.heap H locs) (hl : lvh ls (mL M) L)
    {n' : Nat} {ρ' : Rho} {S' : AS} {r : Option Value} {a : Array Value} {rest : List Value} (h0 : n0 ≤ n) (h1 : n ≤ n') (hr : va_Run p G.1 e (rmM M (nE - n0) (SZ nE - SZ n0)) s m args below meth c H locs (n - n0) (SZ n - SZ n0) (n' - n) (SZ n' - SZ n) (F0 m pc ls st) rest (Qe G r n' ρ' S' a) (fun q => gB G ≤ q))
    (kk : V G M n0 nE Z n' ρ' (pc + 3) L (r.toList ++ rest) S') : W p G.1 e (rmM M (nE - n0) (SZ nE - SZ n0)) s m args below meth c H locs (n - n0) (SZ n - SZ n0) (Z.1 below args s) (F0 m pc ls st) := by
  intro T hT X
  obtain ⟨v, st₀, t, T', Lc, e0, X', hL, e1, e2, ⟨ho, hP', hF⟩, hst⟩ := hr T hT X
  cases ho
  have m1 := SZ_mono h0
  have m2 := SZ_mono h1
  rw [show n - n0 + (n' - n) = n' - n0 by omega, show SZ n - SZ n0 + (SZ n' - SZ n) = SZ n' - SZ n0 by omega] at X'
  obtain ⟨hz, hk⟩ := hF
  rw [e0] at hz hk
  obtain ⟨t2, a1, b1⟩ := kk p e s m args below meth c E T'.heap (locs ++ Lc) ls (by rw [e1]; exact hP') ⟨Nat.le_trans hS.1 (by rw [e1]; exact hz), fun q q1 q2 => by rw [e1, hk q (Nat.lt_of_lt_of_le q1 hS.1) q2]; exact hS.2.1 q q1 q2, fun q hq => by
      rcases List.mem_append.mp hq with h | h
      · exact hS.2.2 q h
      · exact hL q h⟩ hl T' rfl X'
  exact ⟨t2, hst t2 a1, b1⟩
theorem parse_len {y : MethodName} {cnt : Nat} (h : (parseMethodDescriptor y.desc).map (fun d => d.parameters.length) = some cnt) : ∀ sig, parseMethodDescriptor y.desc = some sig → cnt = sig.parameters.length := by
  intro sig hs
  rw [hs] at h
  exact (Option.some.inj h).symm
theorem V_cv {Mc : MT} {cnt k n' : Nat} {As rest : List Value} {r : Option Value} {ρ' : Rho} {S' : AS} (h : CV M pc Mc cnt pc') (hk : okd k = .inl (mK Mc)) (hn : k < n) (hst : st = As.reverse ++ .ref (gB G + k) :: rest) (hc : As.length = cnt) (hW : (rest.map fun v => v.category).sum ≤ 8)
    (hr : Rn G Mc (.ref (gB G + k) :: As) n ρ S r n' ρ' S') (h0 : n0 ≤ n) (h1 : n ≤ n') (h2 : n' ≤ nE) (kk : V G M n0 nE Z n' ρ' pc' L (r.toList ++ rest) S') : V G M n0 nE Z n ρ pc L st S :=
  fun p e s m args below meth c E H locs ls hP hS hl => by
    obtain ⟨idx, ⟨hd, rfl⟩, hlk, ⟨w1, w2, w3, w4⟩, ⟨w5, w6, w7, w8⟩, w9, w10⟩ := h
    have hK : va_K (gD G) vwCl (tysG G) s := E.2.2.2.2.2.2.2.2.1
    have hKW : KW s := E.2.2.2.2.2.2.2.1
    have m1 := SZ_mono h0
    have m2 := SZ_mono h1
    have m3 := SZ_mono h2
    have hat := hP.2 k hn
    rw [ent_obj hk] at hat
    have hPl : va_P (gD G) vwCl [(gB G + k, .inr (mK Mc, (List.range (nfl (mK Mc))).map (fvl (gB G) ρ S k (mK Mc))))] H := by
      intro i q hq
      cases i with
      | zero => cases hq; exact hat
      | succ i => simp at hq
    have hrec := va_recv hK hPl (clC (mK Mc) w8) (q0 := 0) rfl
    have hpre : PreV s H (mY Mc).cls (gB G + k) (PcM G n ρ S (.ref (gB G + k) :: As)) As := ⟨Pc_blind G n ρ S _, by rw [← w7]; exact hrec, Pc_now E hP (.ref (gB G + k) :: As)⟩
    have hls : ls.size = mL M := hl.1.1
    refine V_run E hS hl h0 h1 (r := r) (ρ' := ρ') (S' := S') (rest := rest) (a := (Value.ref (gB G + k) :: As).toArray) ?_ kk
    rcases hlk with hlk | hlk
    · exact va_runV (Ts := []) (own := mO M) (C := (mY Mc).cls) (b := gB G + k) (As := As) (rest := rest) ⟨E.1, E.2.1, E.2.2.1, E.2.2.2.2.2.1, fun w hw => absurd hw List.not_mem_nil⟩ hr ⟨⟨rfl, rfl, w9, w10, ws_code hKW w1, List.mem_singleton.mpr rfl, hKW _ w1 rfl args, hKW _ w2 rfl args, w3, parse_len w4, hKW _ hlk rfl args⟩, hKW _ w5 rfl args, hKW _ w6 rfl args⟩ hpre rfl hc hls hst (lv_room hW) hd ⟨by show n - n0 + (n' - n) ≤ nE - n0; omega, by show SZ n - SZ n0 + (SZ n' - SZ n) ≤ SZ nE - SZ n0; omega⟩
    · exact va_runVN (Ts := []) (own := mO M) (host := RX8) (C := (mY Mc).cls) (b := gB G + k) (As := As) (rest := rest) ⟨E.1, E.2.1, E.2.2.1, E.2.2.2.2.2.1, fun w hw => absurd hw List.not_mem_nil⟩ hr ⟨⟨⟨rfl, rfl, w9, w10, ws_code hKW w1, List.mem_singleton.mpr rfl⟩, hKW _ w1 rfl args, hKW _ w2 rfl args, w3, parse_len w4, hKW _ hlk rfl args⟩, hKW _ w5 rfl args, hKW _ w6 rfl args⟩ hpre rfl hc hls hst (lv_room hW) hd ⟨by show n - n0 + (n' - n) ≤ nE - n0; omega, by show SZ n - SZ n0 + (SZ n' - SZ n) ≤ SZ nE - SZ n0; omega⟩
theorem V_cs {Mc : MT} {cnt n' : Nat} {As rest : List Value} {r : Option Value} {ρ' : Rho} {S' : AS} (h : CS M pc Mc cnt pc') (hst : st = As.reverse ++ rest) (hc : As.length = cnt) (hW : (rest.map fun v => v.category).sum ≤ 8)
    (hr : Rn G Mc As n ρ S r n' ρ' S') (h0 : n0 ≤ n) (h1 : n ≤ n') (h2 : n' ≤ nE) (kk : V G M n0 nE Z n' ρ' pc' L (r.toList ++ rest) S') : V G M n0 nE Z n ρ pc L st S :=
  fun p e s m args below meth c E H locs ls hP hS hl => by
    obtain ⟨idx, ⟨hd, rfl⟩, hlk, ⟨w1, w2, w3, w4⟩, w5, w9, w10⟩ := h
    have hKW : KW s := E.2.2.2.2.2.2.2.1
    have m1 := SZ_mono h0
    have m2 := SZ_mono h1
    have m3 := SZ_mono h2
    have hpre : PreS s H (PcM G n ρ S As) As := ⟨Pc_blind G n ρ S _, Pc_now E hP As⟩
    have hls : ls.size = mL M := hl.1.1
    refine V_run E hS hl h0 h1 (r := r) (ρ' := ρ') (S' := S') (rest := rest) (a := As.toArray) ?_ kk
    rcases hlk with hlk | hlk
    · exact va_runS (Ts := []) (own := mO M) (As := As) (rest := rest) ⟨E.1, E.2.1, E.2.2.1, E.2.2.2.2.2.1, fun w hw => absurd hw List.not_mem_nil⟩ hr ⟨⟨rfl, rfl, w9, w10, ws_code hKW w1, List.mem_singleton.mpr rfl, hKW _ w1 rfl args, hKW _ w2 rfl args, w3, parse_len w4, hKW _ hlk rfl args⟩, hKW _ w5 rfl args⟩ hpre rfl hc hls hst (lv_room hW) hd ⟨by show n - n0 + (n' - n) ≤ nE - n0; omega, by show SZ n - SZ n0 + (SZ n' - SZ n) ≤ SZ nE - SZ n0; omega⟩
    · exact va_runSN (Ts := []) (own := mO M) (host := RX8) (As := As) (rest := rest) ⟨E.1, E.2.1, E.2.2.1, E.2.2.2.2.2.1, fun w hw => absurd hw List.not_mem_nil⟩ hr ⟨⟨⟨rfl, rfl, w9, w10, ws_code hKW w1, List.mem_singleton.mpr rfl⟩, hKW _ w1 rfl args, hKW _ w2 rfl args, w3, parse_len w4, hKW _ hlk rfl args⟩, hKW _ w5 rfl args, trivial⟩ hpre rfl hc hls hst (lv_room hW) hd ⟨by show n - n0 + (n' - n) ≤ nE - n0; omega, by show SZ n - SZ n0 + (SZ n' - SZ n) ≤ SZ nE - SZ n0; omega⟩
theorem V_ci {Mc : MT} {cnt b n' : Nat} {As rest : List Value} {ρ' : Rho} {S' : AS} (h : CI M pc Mc cnt pc') (hst : st = As.reverse ++ .ref b :: rest) (hc : As.length = cnt) (hW : (rest.map fun v => v.category).sum ≤ 8)
    (hr : Rn G Mc (.ref b :: As) n ρ S none n' ρ' S') (h0 : n0 ≤ n) (h1 : n ≤ n') (h2 : n' ≤ nE) (kk : V G M n0 nE Z n' ρ' pc' L rest S') : V G M n0 nE Z n ρ pc L st S :=
  fun p e s m args below meth c E H locs ls hP hS hl => by
    obtain ⟨idx, ⟨hd, rfl⟩, hlk, ⟨w1, w2, w3, w4⟩, w5, w6, w7, w9, w10⟩ := h
    have hKW : KW s := E.2.2.2.2.2.2.2.1
    have m1 := SZ_mono h0
    have m2 := SZ_mono h1
    have m3 := SZ_mono h2
    have hpre : PreS s H (PcM G n ρ S (.ref b :: As)) (.ref b :: As) := ⟨Pc_blind G n ρ S _, Pc_now E hP (.ref b :: As)⟩
    have hls : ls.size = mL M := hl.1.1
    refine V_run E hS hl h0 h1 (r := none) (ρ' := ρ') (S' := S') (rest := rest) (a := (Value.ref b :: As).toArray) ?_ kk
    have hr' : Met G.1 (mY Mc) [Cond.code (mY Mc) (mC Mc) (mL Mc) none] (rmM Mc (n' - n) (SZ n' - SZ n)) (PcM G n ρ S (.ref b :: As)) (Qe G none n' ρ' S') (n' - n) (SZ n' - SZ n) (fun q => gB G ≤ q) := by rw [← w7]; exact hr
    have hw1 := ws_code hKW w1
    rw [w7] at hw1 w1
    rcases hlk with hlk | hlk
    · exact va_runI (Ts := []) (own := mO M) (b := b) (As := As) (rest := rest) ⟨E.1, E.2.1, E.2.2.1, E.2.2.2.2.2.1, fun w hw => absurd hw List.not_mem_nil⟩ hr' ⟨⟨rfl, rfl, w9, w10, hw1, List.mem_singleton.mpr rfl, hKW _ w1 rfl args, hKW _ w2 rfl args, w3, parse_len w4, hKW _ hlk rfl args⟩, w6, hKW _ w5 rfl args⟩ hpre rfl hc hls hst (lv_room hW) hd ⟨by show n - n0 + (n' - n) ≤ nE - n0; omega, by show SZ n - SZ n0 + (SZ n' - SZ n) ≤ SZ nE - SZ n0; omega⟩
    · exact va_runIN (Ts := []) (own := mO M) (host := RX8) (b := b) (As := As) (rest := rest) ⟨E.1, E.2.1, E.2.2.1, E.2.2.2.2.2.1, fun w hw => absurd hw List.not_mem_nil⟩ hr' ⟨⟨⟨rfl, rfl, w9, w10, hw1, List.mem_singleton.mpr rfl⟩, hKW _ w1 rfl args, hKW _ w2 rfl args, w3, parse_len w4, hKW _ hlk rfl args⟩, w6, hKW _ w5 rfl args⟩ hpre rfl hc hls hst (lv_room hW) hd ⟨by show n - n0 + (n' - n) ≤ nE - n0; omega, by show SZ n - SZ n0 + (SZ n' - SZ n) ≤ SZ nE - SZ n0; omega⟩
/-- a method's contract out of its walk -/
theorem Rn_of {args : List Value} {r : Option Value} {ρE : Rho} {SE : AS} (hp : plainName (mY M).cls = true ∧ (mY M).cls = mO M) (L : List (Option Value)) (hL : lva 0 L = lv_args 0 args) (hlen : L.length ≤ mL M) (hsl : (lg_sl args).length ≤ mL M) (k : V G M n nE (Zm G r n nE ρE SE) n ρ 0 L [] S) : Rn G M args n ρ S r nE ρE SE := by
  refine Met.ofW (cc := mC M) (maxL := mL M) (ret := mR M) hp.1 rfl ?_
  intro p e s m args' below meth c s₁ B hml hv
  obtain ⟨rfl, hP, hKW, hK⟩ := hv
  rw [lg_entry_eq]
  have E : EF G M n (fun _ _ => True) p s m args.toArray meth c := ⟨B.exec, B.bytes, hml, B.returns, B.notSynchronized, by rw [← hp.2]; exact findClass_of_methodNamed B.named, (name_of_methodNamed B.named B.method).1, hKW, hK, hP.1, trivial⟩
  have h := k p e s m args.toArray below meth c E s.heap [] _ hP va_S.rf ⟨by rw [hL]; exact lv_entry args hsl, hlen⟩
  rw [Nat.sub_self, Nat.sub_self] at h
  exact h
variable {r : Option Value} {SE : AS}
theorem V_iret {v : Int32} (h : Dc M pc .ireturn 1 pc') (hR : mR M = some .int) (hr : some (.int v) = r) (hS0 : S = SE) : V G M n0 n (Zm G r n0 n ρ SE) n ρ pc L [.int v] S :=
  fun p e s m args below meth c E H locs ls hP hS hl => by
    obtain ⟨hd, -⟩ := h
    subst hr; subst hS0
    exact W.iret E.1 E.2.1 (E.2.2.2.1.trans hR) (fun t ht hW => ⟨rfl, by rw [ht]; exact hP, hS.F ht⟩) hS.2.2 hd E.2.2.2.2.1
theorem V_zret {v : Int32} (h : Dc M pc .ireturn 1 pc') (hR : mR M = some .boolean) (hv : narrow .boolean (.int v) = .int v) (hr : some (.int v) = r) (hS0 : S = SE) : V G M n0 n (Zm G r n0 n ρ SE) n ρ pc L [.int v] S :=
  fun p e s m args below meth c E H locs ls hP hS hl => by
    obtain ⟨hd, -⟩ := h
    subst hr; subst hS0
    exact W.zret E.1 E.2.1 (E.2.2.2.1.trans hR) hv (fun t ht hW => ⟨rfl, by rw [ht]; exact hP, hS.F ht⟩) hS.2.2 hd E.2.2.2.2.1
theorem V_lret {v : Int64} (h : Dc M pc .lreturn 1 pc') (hR : mR M = some .long) (hr : some (.long v) = r) (hS0 : S = SE) : V G M n0 n (Zm G r n0 n ρ SE) n ρ pc L [.long v] S :=
  fun p e s m args below meth c E H locs ls hP hS hl => by
    obtain ⟨hd, -⟩ := h
    subst hr; subst hS0
    exact W.lret E.1 E.2.1 (E.2.2.2.1.trans hR) (fun t ht hW => ⟨rfl, by rw [ht]; exact hP, hS.F ht⟩) hS.2.2 hd E.2.2.2.2.1
theorem V_aret {a : Nat} {C : String} (h : Dc M pc .areturn 1 pc') (hR : mR M = some (.object C)) (hr : some (.ref a) = r) (hS0 : S = SE) : V G M n0 n (Zm G r n0 n ρ SE) n ρ pc L [.ref a] S :=
  fun p e s m args below meth c E H locs ls hP hS hl => by
    obtain ⟨hd, -⟩ := h
    subst hr; subst hS0
    exact W.aret E.1 E.2.1 (E.2.2.2.1.trans hR) (Or.inl ⟨_, rfl⟩) (Or.inr ⟨_, rfl⟩) (fun t ht hW => ⟨rfl, by rw [ht]; exact hP, hS.F ht⟩) hS.2.2 hd E.2.2.2.2.1
theorem V_vret (h : Dc M pc .return_ 1 pc') (hR : mR M = none) (hr : none = r) (hS0 : S = SE) : V G M n0 n (Zm G r n0 n ρ SE) n ρ pc L [] S :=
  fun p e s m args below meth c E H locs ls hP hS hl => by
    obtain ⟨hd, -⟩ := h
    subst hr; subst hS0
    exact W.vret E.1 E.2.1 (E.2.2.2.1.trans hR) (fun t ht hW => ⟨rfl, by rw [ht]; exact hP, hS.F ht⟩) hS.2.2 hd E.2.2.2.2.1
/-- a truth value as an int -/
def bI (b : Bool) : Int32 := if b = true then nI 1 else nI 0
theorem bI_t {b : Bool} (h : b = true) : bI b = nI 1 := by rw [h]; rfl
theorem bI_f {b : Bool} (h : b = false) : bI b = nI 0 := by rw [h]; rfl
theorem bI_nar (b : Bool) : narrow .boolean (.int (bI b)) = .int (bI b) := by cases b <;> rfl
theorem bI_0 {b : Bool} : bI b = 0 ↔ b = false := by cases b <;> simp [bI, nI]
theorem V_neB {tgt : Nat} {b : Bool} (h : Db M pc .ne tgt pc') (kt : b = true → V G M n0 nE Z n ρ tgt L st S) (kf : b = false → V G M n0 nE Z n ρ pc' L st S) : V G M n0 nE Z n ρ pc L (.int (bI b) :: st) S :=
  V_if_ne h (fun q => kt (by cases b <;> first | rfl | exact absurd (bI_0.mpr rfl) q)) (fun q => kf (bI_0.mp q))
theorem V_eqB {tgt : Nat} {b : Bool} (h : Db M pc .eq tgt pc') (kt : b = false → V G M n0 nE Z n ρ tgt L st S) (kf : b = true → V G M n0 nE Z n ρ pc' L st S) : V G M n0 nE Z n ρ pc L (.int (bI b) :: st) S :=
  V_if_eq h (fun q => kt (bI_0.mp q)) (fun q => kf (by cases b <;> first | rfl | exact absurd (bI_0.mpr rfl) q))
def Dt (M : MT) (pc : Nat) (lo hi : Int) (offs : Array Int) (dt : Nat) : Prop := ∃ (dflt : Int) (len : Nat), decode (mC M) pc = .ok (.tableswitch dflt lo hi offs, len) ∧ (pc : Int) + dflt = (dt : Int)
theorem V_tabO {lo hi : Int} {offs : Array Int} {dt : Nat} {x : Int32} (h : Dt M pc lo hi offs dt) (hx : x.toInt < lo ∨ hi < x.toInt) (k : V G M n0 nE Z n ρ dt L st S) : V G M n0 nE Z n ρ pc L (.int x :: st) S :=
  fun p e s m args below meth c E H locs ls hP hS hl => by
    obtain ⟨dflt, len, hd, ht⟩ := h
    exact lv_tableOut E.1 E.2.1 hd hx ht (k p e s m args below meth c E H locs ls hP hS hl)
theorem V_tabI {lo hi : Int} {offs : Array Int} {dt tgt : Nat} {off : Int} {x : Int32} (h : Dt M pc lo hi offs dt) (h1 : ¬ x.toInt < lo) (h2 : ¬ hi < x.toInt) (ho : offs[(x.toInt - lo).toNat]? = some off) (ht : (pc : Int) + off = (tgt : Int)) (k : V G M n0 nE Z n ρ tgt L st S) : V G M n0 nE Z n ρ pc L (.int x :: st) S :=
  fun p e s m args below meth c E H locs ls hP hS hl => by
    obtain ⟨dflt, len, hd, -⟩ := h
    exact lv_tableIn E.1 E.2.1 hd h1 h2 ho ht (k p e s m args below meth c E H locs ls hP hS hl)
/-- an int constant is pushed -/
def KI (M : MT) (pc : Nat) (v : Int32) (pc' : Nat) : Prop := (∃ i : Int, Dc M pc (.iconst i) 1 pc' ∧ Int32.ofInt i = v) ∨ (∃ i : Int, Dc M pc (.bipush i) 2 pc' ∧ (Int8.ofInt i).toInt32 = v) ∨ (∃ i : Int, Dc M pc (.sipush i) 3 pc' ∧ (Int16.ofInt i).toInt32 = v)
theorem V_ki {v : Int32} (h : KI M pc v pc') (k : V G M n0 nE Z n ρ pc' L (.int v :: st) S) : V G M n0 nE Z n ρ pc L st S := by
  rcases h with ⟨i, h, hv⟩ | ⟨i, h, hv⟩ | ⟨i, h, hv⟩
  · exact V_iconst h hv k
  · exact V_bipush h hv k
  · exact V_sipush h hv k

theorem V_cv0 {Mc : MT} {k n' : Nat} {rest : List Value} {r : Value} {ρ' : Rho} {S' : AS} (h : CV M pc Mc 0 pc') (hr : Rn G Mc [.ref (gB G + k)] n ρ S (some r) n' ρ' S') (hk : okd k = .inl (mK Mc)) (hb : k < n ∧ (rest.map fun v => v.category).sum ≤ 8 ∧ n0 ≤ n ∧ n ≤ n' ∧ n' ≤ nE) (kk : V G M n0 nE Z n' ρ' pc' L (r :: rest) S') : V G M n0 nE Z n ρ pc L (.ref (gB G + k) :: rest) S := V_cv (As := []) h hk hb.1 rfl rfl hb.2.1 hr hb.2.2.1 hb.2.2.2.1 hb.2.2.2.2 kk
theorem V_cv0v {Mc : MT} {k n' : Nat} {rest : List Value} {ρ' : Rho} {S' : AS} (h : CV M pc Mc 0 pc') (hr : Rn G Mc [.ref (gB G + k)] n ρ S none n' ρ' S') (hk : okd k = .inl (mK Mc)) (hb : k < n ∧ (rest.map fun v => v.category).sum ≤ 8 ∧ n0 ≤ n ∧ n ≤ n' ∧ n' ≤ nE) (kk : V G M n0 nE Z n' ρ' pc' L rest S') : V G M n0 nE Z n ρ pc L (.ref (gB G + k) :: rest) S := V_cv (As := []) h hk hb.1 rfl rfl hb.2.1 hr hb.2.2.1 hb.2.2.2.1 hb.2.2.2.2 kk
theorem V_cs0 {Mc : MT} {n' : Nat} {rest : List Value} {r : Value} {ρ' : Rho} {S' : AS} (h : CS M pc Mc 0 pc') (hr : Rn G Mc [] n ρ S (some r) n' ρ' S') (hb : (rest.map fun v => v.category).sum ≤ 8 ∧ n0 ≤ n ∧ n ≤ n' ∧ n' ≤ nE) (kk : V G M n0 nE Z n' ρ' pc' L (r :: rest) S') : V G M n0 nE Z n ρ pc L (rest) S := V_cs (As := []) h rfl rfl hb.1 hr hb.2.1 hb.2.2.1 hb.2.2.2 kk
theorem V_cs0v {Mc : MT} {n' : Nat} {rest : List Value} {ρ' : Rho} {S' : AS} (h : CS M pc Mc 0 pc') (hr : Rn G Mc [] n ρ S none n' ρ' S') (hb : (rest.map fun v => v.category).sum ≤ 8 ∧ n0 ≤ n ∧ n ≤ n' ∧ n' ≤ nE) (kk : V G M n0 nE Z n' ρ' pc' L rest S') : V G M n0 nE Z n ρ pc L (rest) S := V_cs (As := []) h rfl rfl hb.1 hr hb.2.1 hb.2.2.1 hb.2.2.2 kk
theorem V_ci0 {Mc : MT} {b n' : Nat} {rest : List Value} {ρ' : Rho} {S' : AS} (h : CI M pc Mc 0 pc') (hr : Rn G Mc [.ref b] n ρ S none n' ρ' S') (hb : (rest.map fun v => v.category).sum ≤ 8 ∧ n0 ≤ n ∧ n ≤ n' ∧ n' ≤ nE) (kk : V G M n0 nE Z n' ρ' pc' L rest S') : V G M n0 nE Z n ρ pc L (.ref b :: rest) S := V_ci (As := []) h rfl rfl hb.1 hr hb.2.1 hb.2.2.1 hb.2.2.2 kk
theorem V_cv1 {Mc : MT} {k n' : Nat} {x0 : Value} {rest : List Value} {r : Value} {ρ' : Rho} {S' : AS} (h : CV M pc Mc 1 pc') (hr : Rn G Mc [.ref (gB G + k), x0] n ρ S (some r) n' ρ' S') (hk : okd k = .inl (mK Mc)) (hb : k < n ∧ (rest.map fun v => v.category).sum ≤ 8 ∧ n0 ≤ n ∧ n ≤ n' ∧ n' ≤ nE) (kk : V G M n0 nE Z n' ρ' pc' L (r :: rest) S') : V G M n0 nE Z n ρ pc L (x0 :: .ref (gB G + k) :: rest) S := V_cv (As := [x0]) h hk hb.1 rfl rfl hb.2.1 hr hb.2.2.1 hb.2.2.2.1 hb.2.2.2.2 kk
theorem V_cv1v {Mc : MT} {k n' : Nat} {x0 : Value} {rest : List Value} {ρ' : Rho} {S' : AS} (h : CV M pc Mc 1 pc') (hr : Rn G Mc [.ref (gB G + k), x0] n ρ S none n' ρ' S') (hk : okd k = .inl (mK Mc)) (hb : k < n ∧ (rest.map fun v => v.category).sum ≤ 8 ∧ n0 ≤ n ∧ n ≤ n' ∧ n' ≤ nE) (kk : V G M n0 nE Z n' ρ' pc' L rest S') : V G M n0 nE Z n ρ pc L (x0 :: .ref (gB G + k) :: rest) S := V_cv (As := [x0]) h hk hb.1 rfl rfl hb.2.1 hr hb.2.2.1 hb.2.2.2.1 hb.2.2.2.2 kk
theorem V_cs1 {Mc : MT} {n' : Nat} {x0 : Value} {rest : List Value} {r : Value} {ρ' : Rho} {S' : AS} (h : CS M pc Mc 1 pc') (hr : Rn G Mc [x0] n ρ S (some r) n' ρ' S') (hb : (rest.map fun v => v.category).sum ≤ 8 ∧ n0 ≤ n ∧ n ≤ n' ∧ n' ≤ nE) (kk : V G M n0 nE Z n' ρ' pc' L (r :: rest) S') : V G M n0 nE Z n ρ pc L (x0 :: rest) S := V_cs (As := [x0]) h rfl rfl hb.1 hr hb.2.1 hb.2.2.1 hb.2.2.2 kk
theorem V_cs1v {Mc : MT} {n' : Nat} {x0 : Value} {rest : List Value} {ρ' : Rho} {S' : AS} (h : CS M pc Mc 1 pc') (hr : Rn G Mc [x0] n ρ S none n' ρ' S') (hb : (rest.map fun v => v.category).sum ≤ 8 ∧ n0 ≤ n ∧ n ≤ n' ∧ n' ≤ nE) (kk : V G M n0 nE Z n' ρ' pc' L rest S') : V G M n0 nE Z n ρ pc L (x0 :: rest) S := V_cs (As := [x0]) h rfl rfl hb.1 hr hb.2.1 hb.2.2.1 hb.2.2.2 kk
theorem V_ci1 {Mc : MT} {b n' : Nat} {x0 : Value} {rest : List Value} {ρ' : Rho} {S' : AS} (h : CI M pc Mc 1 pc') (hr : Rn G Mc [.ref b, x0] n ρ S none n' ρ' S') (hb : (rest.map fun v => v.category).sum ≤ 8 ∧ n0 ≤ n ∧ n ≤ n' ∧ n' ≤ nE) (kk : V G M n0 nE Z n' ρ' pc' L rest S') : V G M n0 nE Z n ρ pc L (x0 :: .ref b :: rest) S := V_ci (As := [x0]) h rfl rfl hb.1 hr hb.2.1 hb.2.2.1 hb.2.2.2 kk
theorem V_cv2 {Mc : MT} {k n' : Nat} {x0 x1 : Value} {rest : List Value} {r : Value} {ρ' : Rho} {S' : AS} (h : CV M pc Mc 2 pc') (hr : Rn G Mc [.ref (gB G + k), x0, x1] n ρ S (some r) n' ρ' S') (hk : okd k = .inl (mK Mc)) (hb : k < n ∧ (rest.map fun v => v.category).sum ≤ 8 ∧ n0 ≤ n ∧ n ≤ n' ∧ n' ≤ nE) (kk : V G M n0 nE Z n' ρ' pc' L (r :: rest) S') : V G M n0 nE Z n ρ pc L (x1 :: x0 :: .ref (gB G + k) :: rest) S := V_cv (As := [x0, x1]) h hk hb.1 rfl rfl hb.2.1 hr hb.2.2.1 hb.2.2.2.1 hb.2.2.2.2 kk
theorem V_cv2v {Mc : MT} {k n' : Nat} {x0 x1 : Value} {rest : List Value} {ρ' : Rho} {S' : AS} (h : CV M pc Mc 2 pc') (hr : Rn G Mc [.ref (gB G + k), x0, x1] n ρ S none n' ρ' S') (hk : okd k = .inl (mK Mc)) (hb : k < n ∧ (rest.map fun v => v.category).sum ≤ 8 ∧ n0 ≤ n ∧ n ≤ n' ∧ n' ≤ nE) (kk : V G M n0 nE Z n' ρ' pc' L rest S') : V G M n0 nE Z n ρ pc L (x1 :: x0 :: .ref (gB G + k) :: rest) S := V_cv (As := [x0, x1]) h hk hb.1 rfl rfl hb.2.1 hr hb.2.2.1 hb.2.2.2.1 hb.2.2.2.2 kk
theorem V_cs2 {Mc : MT} {n' : Nat} {x0 x1 : Value} {rest : List Value} {r : Value} {ρ' : Rho} {S' : AS} (h : CS M pc Mc 2 pc') (hr : Rn G Mc [x0, x1] n ρ S (some r) n' ρ' S') (hb : (rest.map fun v => v.category).sum ≤ 8 ∧ n0 ≤ n ∧ n ≤ n' ∧ n' ≤ nE) (kk : V G M n0 nE Z n' ρ' pc' L (r :: rest) S') : V G M n0 nE Z n ρ pc L (x1 :: x0 :: rest) S := V_cs (As := [x0, x1]) h rfl rfl hb.1 hr hb.2.1 hb.2.2.1 hb.2.2.2 kk
theorem V_cs2v {Mc : MT} {n' : Nat} {x0 x1 : Value} {rest : List Value} {ρ' : Rho} {S' : AS} (h : CS M pc Mc 2 pc') (hr : Rn G Mc [x0, x1] n ρ S none n' ρ' S') (hb : (rest.map fun v => v.category).sum ≤ 8 ∧ n0 ≤ n ∧ n ≤ n' ∧ n' ≤ nE) (kk : V G M n0 nE Z n' ρ' pc' L rest S') : V G M n0 nE Z n ρ pc L (x1 :: x0 :: rest) S := V_cs (As := [x0, x1]) h rfl rfl hb.1 hr hb.2.1 hb.2.2.1 hb.2.2.2 kk
theorem V_ci2 {Mc : MT} {b n' : Nat} {x0 x1 : Value} {rest : List Value} {ρ' : Rho} {S' : AS} (h : CI M pc Mc 2 pc') (hr : Rn G Mc [.ref b, x0, x1] n ρ S none n' ρ' S') (hb : (rest.map fun v => v.category).sum ≤ 8 ∧ n0 ≤ n ∧ n ≤ n' ∧ n' ≤ nE) (kk : V G M n0 nE Z n' ρ' pc' L rest S') : V G M n0 nE Z n ρ pc L (x1 :: x0 :: .ref b :: rest) S := V_ci (As := [x0, x1]) h rfl rfl hb.1 hr hb.2.1 hb.2.2.1 hb.2.2.2 kk
theorem V_cv3 {Mc : MT} {k n' : Nat} {x0 x1 x2 : Value} {rest : List Value} {r : Value} {ρ' : Rho} {S' : AS} (h : CV M pc Mc 3 pc') (hr : Rn G Mc [.ref (gB G + k), x0, x1, x2] n ρ S (some r) n' ρ' S') (hk : okd k = .inl (mK Mc)) (hb : k < n ∧ (rest.map fun v => v.category).sum ≤ 8 ∧ n0 ≤ n ∧ n ≤ n' ∧ n' ≤ nE) (kk : V G M n0 nE Z n' ρ' pc' L (r :: rest) S') : V G M n0 nE Z n ρ pc L (x2 :: x1 :: x0 :: .ref (gB G + k) :: rest) S := V_cv (As := [x0, x1, x2]) h hk hb.1 rfl rfl hb.2.1 hr hb.2.2.1 hb.2.2.2.1 hb.2.2.2.2 kk
theorem V_cv3v {Mc : MT} {k n' : Nat} {x0 x1 x2 : Value} {rest : List Value} {ρ' : Rho} {S' : AS} (h : CV M pc Mc 3 pc') (hr : Rn G Mc [.ref (gB G + k), x0, x1, x2] n ρ S none n' ρ' S') (hk : okd k = .inl (mK Mc)) (hb : k < n ∧ (rest.map fun v => v.category).sum ≤ 8 ∧ n0 ≤ n ∧ n ≤ n' ∧ n' ≤ nE) (kk : V G M n0 nE Z n' ρ' pc' L rest S') : V G M n0 nE Z n ρ pc L (x2 :: x1 :: x0 :: .ref (gB G + k) :: rest) S := V_cv (As := [x0, x1, x2]) h hk hb.1 rfl rfl hb.2.1 hr hb.2.2.1 hb.2.2.2.1 hb.2.2.2.2 kk
theorem V_cs3 {Mc : MT} {n' : Nat} {x0 x1 x2 : Value} {rest : List Value} {r : Value} {ρ' : Rho} {S' : AS} (h : CS M pc Mc 3 pc') (hr : Rn G Mc [x0, x1, x2] n ρ S (some r) n' ρ' S') (hb : (rest.map fun v => v.category).sum ≤ 8 ∧ n0 ≤ n ∧ n ≤ n' ∧ n' ≤ nE) (kk : V G M n0 nE Z n' ρ' pc' L (r :: rest) S') : V G M n0 nE Z n ρ pc L (x2 :: x1 :: x0 :: rest) S := V_cs (As := [x0, x1, x2]) h rfl rfl hb.1 hr hb.2.1 hb.2.2.1 hb.2.2.2 kk
theorem V_cs3v {Mc : MT} {n' : Nat} {x0 x1 x2 : Value} {rest : List Value} {ρ' : Rho} {S' : AS} (h : CS M pc Mc 3 pc') (hr : Rn G Mc [x0, x1, x2] n ρ S none n' ρ' S') (hb : (rest.map fun v => v.category).sum ≤ 8 ∧ n0 ≤ n ∧ n ≤ n' ∧ n' ≤ nE) (kk : V G M n0 nE Z n' ρ' pc' L rest S') : V G M n0 nE Z n ρ pc L (x2 :: x1 :: x0 :: rest) S := V_cs (As := [x0, x1, x2]) h rfl rfl hb.1 hr hb.2.1 hb.2.2.1 hb.2.2.2 kk
theorem V_ci3 {Mc : MT} {b n' : Nat} {x0 x1 x2 : Value} {rest : List Value} {ρ' : Rho} {S' : AS} (h : CI M pc Mc 3 pc') (hr : Rn G Mc [.ref b, x0, x1, x2] n ρ S none n' ρ' S') (hb : (rest.map fun v => v.category).sum ≤ 8 ∧ n0 ≤ n ∧ n ≤ n' ∧ n' ≤ nE) (kk : V G M n0 nE Z n' ρ' pc' L rest S') : V G M n0 nE Z n ρ pc L (x2 :: x1 :: x0 :: .ref b :: rest) S := V_ci (As := [x0, x1, x2]) h rfl rfl hb.1 hr hb.2.1 hb.2.2.1 hb.2.2.2 kk
theorem V_cv4 {Mc : MT} {k n' : Nat} {x0 x1 x2 x3 : Value} {rest : List Value} {r : Value} {ρ' : Rho} {S' : AS} (h : CV M pc Mc 4 pc') (hr : Rn G Mc [.ref (gB G + k), x0, x1, x2, x3] n ρ S (some r) n' ρ' S') (hk : okd k = .inl (mK Mc)) (hb : k < n ∧ (rest.map fun v => v.category).sum ≤ 8 ∧ n0 ≤ n ∧ n ≤ n' ∧ n' ≤ nE) (kk : V G M n0 nE Z n' ρ' pc' L (r :: rest) S') : V G M n0 nE Z n ρ pc L (x3 :: x2 :: x1 :: x0 :: .ref (gB G + k) :: rest) S := V_cv (As := [x0, x1, x2, x3]) h hk hb.1 rfl rfl hb.2.1 hr hb.2.2.1 hb.2.2.2.1 hb.2.2.2.2 kk
theorem V_cv4v {Mc : MT} {k n' : Nat} {x0 x1 x2 x3 : Value} {rest : List Value} {ρ' : Rho} {S' : AS} (h : CV M pc Mc 4 pc') (hr : Rn G Mc [.ref (gB G + k), x0, x1, x2, x3] n ρ S none n' ρ' S') (hk : okd k = .inl (mK Mc)) (hb : k < n ∧ (rest.map fun v => v.category).sum ≤ 8 ∧ n0 ≤ n ∧ n ≤ n' ∧ n' ≤ nE) (kk : V G M n0 nE Z n' ρ' pc' L rest S') : V G M n0 nE Z n ρ pc L (x3 :: x2 :: x1 :: x0 :: .ref (gB G + k) :: rest) S := V_cv (As := [x0, x1, x2, x3]) h hk hb.1 rfl rfl hb.2.1 hr hb.2.2.1 hb.2.2.2.1 hb.2.2.2.2 kk
theorem V_cs4 {Mc : MT} {n' : Nat} {x0 x1 x2 x3 : Value} {rest : List Value} {r : Value} {ρ' : Rho} {S' : AS} (h : CS M pc Mc 4 pc') (hr : Rn G Mc [x0, x1, x2, x3] n ρ S (some r) n' ρ' S') (hb : (rest.map fun v => v.category).sum ≤ 8 ∧ n0 ≤ n ∧ n ≤ n' ∧ n' ≤ nE) (kk : V G M n0 nE Z n' ρ' pc' L (r :: rest) S') : V G M n0 nE Z n ρ pc L (x3 :: x2 :: x1 :: x0 :: rest) S := V_cs (As := [x0, x1, x2, x3]) h rfl rfl hb.1 hr hb.2.1 hb.2.2.1 hb.2.2.2 kk
theorem V_cs4v {Mc : MT} {n' : Nat} {x0 x1 x2 x3 : Value} {rest : List Value} {ρ' : Rho} {S' : AS} (h : CS M pc Mc 4 pc') (hr : Rn G Mc [x0, x1, x2, x3] n ρ S none n' ρ' S') (hb : (rest.map fun v => v.category).sum ≤ 8 ∧ n0 ≤ n ∧ n ≤ n' ∧ n' ≤ nE) (kk : V G M n0 nE Z n' ρ' pc' L rest S') : V G M n0 nE Z n ρ pc L (x3 :: x2 :: x1 :: x0 :: rest) S := V_cs (As := [x0, x1, x2, x3]) h rfl rfl hb.1 hr hb.2.1 hb.2.2.1 hb.2.2.2 kk
theorem V_ci4 {Mc : MT} {b n' : Nat} {x0 x1 x2 x3 : Value} {rest : List Value} {ρ' : Rho} {S' : AS} (h : CI M pc Mc 4 pc') (hr : Rn G Mc [.ref b, x0, x1, x2, x3] n ρ S none n' ρ' S') (hb : (rest.map fun v => v.category).sum ≤ 8 ∧ n0 ≤ n ∧ n ≤ n' ∧ n' ≤ nE) (kk : V G M n0 nE Z n' ρ' pc' L rest S') : V G M n0 nE Z n ρ pc L (x3 :: x2 :: x1 :: x0 :: .ref b :: rest) S := V_ci (As := [x0, x1, x2, x3]) h rfl rfl hb.1 hr hb.2.1 hb.2.2.1 hb.2.2.2 kk
theorem V_cv5 {Mc : MT} {k n' : Nat} {x0 x1 x2 x3 x4 : Value} {rest : List Value} {r : Value} {ρ' : Rho} {S' : AS} (h : CV M pc Mc 5 pc') (hr : Rn G Mc [.ref (gB G + k), x0, x1, x2, x3, x4] n ρ S (some r) n' ρ' S') (hk : okd k = .inl (mK Mc)) (hb : k < n ∧ (rest.map fun v => v.category).sum ≤ 8 ∧ n0 ≤ n ∧ n ≤ n' ∧ n' ≤ nE) (kk : V G M n0 nE Z n' ρ' pc' L (r :: rest) S') : V G M n0 nE Z n ρ pc L (x4 :: x3 :: x2 :: x1 :: x0 :: .ref (gB G + k) :: rest) S := V_cv (As := [x0, x1, x2, x3, x4]) h hk hb.1 rfl rfl hb.2.1 hr hb.2.2.1 hb.2.2.2.1 hb.2.2.2.2 kk
theorem V_cv5v {Mc : MT} {k n' : Nat} {x0 x1 x2 x3 x4 : Value} {rest : List Value} {ρ' : Rho} {S' : AS} (h : CV M pc Mc 5 pc') (hr : Rn G Mc [.ref (gB G + k), x0, x1, x2, x3, x4] n ρ S none n' ρ' S') (hk : okd k = .inl (mK Mc)) (hb : k < n ∧ (rest.map fun v => v.category).sum ≤ 8 ∧ n0 ≤ n ∧ n ≤ n' ∧ n' ≤ nE) (kk : V G M n0 nE Z n' ρ' pc' L rest S') : V G M n0 nE Z n ρ pc L (x4 :: x3 :: x2 :: x1 :: x0 :: .ref (gB G + k) :: rest) S := V_cv (As := [x0, x1, x2, x3, x4]) h hk hb.1 rfl rfl hb.2.1 hr hb.2.2.1 hb.2.2.2.1 hb.2.2.2.2 kk
theorem V_cs5 {Mc : MT} {n' : Nat} {x0 x1 x2 x3 x4 : Value} {rest : List Value} {r : Value} {ρ' : Rho} {S' : AS} (h : CS M pc Mc 5 pc') (hr : Rn G Mc [x0, x1, x2, x3, x4] n ρ S (some r) n' ρ' S') (hb : (rest.map fun v => v.category).sum ≤ 8 ∧ n0 ≤ n ∧ n ≤ n' ∧ n' ≤ nE) (kk : V G M n0 nE Z n' ρ' pc' L (r :: rest) S') : V G M n0 nE Z n ρ pc L (x4 :: x3 :: x2 :: x1 :: x0 :: rest) S := V_cs (As := [x0, x1, x2, x3, x4]) h rfl rfl hb.1 hr hb.2.1 hb.2.2.1 hb.2.2.2 kk
theorem V_cs5v {Mc : MT} {n' : Nat} {x0 x1 x2 x3 x4 : Value} {rest : List Value} {ρ' : Rho} {S' : AS} (h : CS M pc Mc 5 pc') (hr : Rn G Mc [x0, x1, x2, x3, x4] n ρ S none n' ρ' S') (hb : (rest.map fun v => v.category).sum ≤ 8 ∧ n0 ≤ n ∧ n ≤ n' ∧ n' ≤ nE) (kk : V G M n0 nE Z n' ρ' pc' L rest S') : V G M n0 nE Z n ρ pc L (x4 :: x3 :: x2 :: x1 :: x0 :: rest) S := V_cs (As := [x0, x1, x2, x3, x4]) h rfl rfl hb.1 hr hb.2.1 hb.2.2.1 hb.2.2.2 kk
theorem V_ci5 {Mc : MT} {b n' : Nat} {x0 x1 x2 x3 x4 : Value} {rest : List Value} {ρ' : Rho} {S' : AS} (h : CI M pc Mc 5 pc') (hr : Rn G Mc [.ref b, x0, x1, x2, x3, x4] n ρ S none n' ρ' S') (hb : (rest.map fun v => v.category).sum ≤ 8 ∧ n0 ≤ n ∧ n ≤ n' ∧ n' ≤ nE) (kk : V G M n0 nE Z n' ρ' pc' L rest S') : V G M n0 nE Z n ρ pc L (x4 :: x3 :: x2 :: x1 :: x0 :: .ref b :: rest) S := V_ci (As := [x0, x1, x2, x3, x4]) h rfl rfl hb.1 hr hb.2.1 hb.2.2.1 hb.2.2.2 kk
theorem V_cv6 {Mc : MT} {k n' : Nat} {x0 x1 x2 x3 x4 x5 : Value} {rest : List Value} {r : Value} {ρ' : Rho} {S' : AS} (h : CV M pc Mc 6 pc') (hr : Rn G Mc [.ref (gB G + k), x0, x1, x2, x3, x4, x5] n ρ S (some r) n' ρ' S') (hk : okd k = .inl (mK Mc)) (hb : k < n ∧ (rest.map fun v => v.category).sum ≤ 8 ∧ n0 ≤ n ∧ n ≤ n' ∧ n' ≤ nE) (kk : V G M n0 nE Z n' ρ' pc' L (r :: rest) S') : V G M n0 nE Z n ρ pc L (x5 :: x4 :: x3 :: x2 :: x1 :: x0 :: .ref (gB G + k) :: rest) S := V_cv (As := [x0, x1, x2, x3, x4, x5]) h hk hb.1 rfl rfl hb.2.1 hr hb.2.2.1 hb.2.2.2.1 hb.2.2.2.2 kk
theorem V_cv6v {Mc : MT} {k n' : Nat} {x0 x1 x2 x3 x4 x5 : Value} {rest : List Value} {ρ' : Rho} {S' : AS} (h : CV M pc Mc 6 pc') (hr : Rn G Mc [.ref (gB G + k), x0, x1, x2, x3, x4, x5] n ρ S none n' ρ' S') (hk : okd k = .inl (mK Mc)) (hb : k < n ∧ (rest.map fun v => v.category).sum ≤ 8 ∧ n0 ≤ n ∧ n ≤ n' ∧ n' ≤ nE) (kk : V G M n0 nE Z n' ρ' pc' L rest S') : V G M n0 nE Z n ρ pc L (x5 :: x4 :: x3 :: x2 :: x1 :: x0 :: .ref (gB G + k) :: rest) S := V_cv (As := [x0, x1, x2, x3, x4, x5]) h hk hb.1 rfl rfl hb.2.1 hr hb.2.2.1 hb.2.2.2.1 hb.2.2.2.2 kk
theorem V_cs6 {Mc : MT} {n' : Nat} {x0 x1 x2 x3 x4 x5 : Value} {rest : List Value} {r : Value} {ρ' : Rho} {S' : AS} (h : CS M pc Mc 6 pc') (hr : Rn G Mc [x0, x1, x2, x3, x4, x5] n ρ S (some r) n' ρ' S') (hb : (rest.map fun v => v.category).sum ≤ 8 ∧ n0 ≤ n ∧ n ≤ n' ∧ n' ≤ nE) (kk : V G M n0 nE Z n' ρ' pc' L (r :: rest) S') : V G M n0 nE Z n ρ pc L (x5 :: x4 :: x3 :: x2 :: x1 :: x0 :: rest) S := V_cs (As := [x0, x1, x2, x3, x4, x5]) h rfl rfl hb.1 hr hb.2.1 hb.2.2.1 hb.2.2.2 kk
theorem V_cs6v {Mc : MT} {n' : Nat} {x0 x1 x2 x3 x4 x5 : Value} {rest : List Value} {ρ' : Rho} {S' : AS} (h : CS M pc Mc 6 pc') (hr : Rn G Mc [x0, x1, x2, x3, x4, x5] n ρ S none n' ρ' S') (hb : (rest.map fun v => v.category).sum ≤ 8 ∧ n0 ≤ n ∧ n ≤ n' ∧ n' ≤ nE) (kk : V G M n0 nE Z n' ρ' pc' L rest S') : V G M n0 nE Z n ρ pc L (x5 :: x4 :: x3 :: x2 :: x1 :: x0 :: rest) S := V_cs (As := [x0, x1, x2, x3, x4, x5]) h rfl rfl hb.1 hr hb.2.1 hb.2.2.1 hb.2.2.2 kk
theorem V_ci6 {Mc : MT} {b n' : Nat} {x0 x1 x2 x3 x4 x5 : Value} {rest : List Value} {ρ' : Rho} {S' : AS} (h : CI M pc Mc 6 pc') (hr : Rn G Mc [.ref b, x0, x1, x2, x3, x4, x5] n ρ S none n' ρ' S') (hb : (rest.map fun v => v.category).sum ≤ 8 ∧ n0 ≤ n ∧ n ≤ n' ∧ n' ≤ nE) (kk : V G M n0 nE Z n' ρ' pc' L rest S') : V G M n0 nE Z n ρ pc L (x5 :: x4 :: x3 :: x2 :: x1 :: x0 :: .ref b :: rest) S := V_ci (As := [x0, x1, x2, x3, x4, x5]) h rfl rfl hb.1 hr hb.2.1 hb.2.2.1 hb.2.2.2 kk
end VC
