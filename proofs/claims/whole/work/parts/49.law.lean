/-! the law -/
/-- what holds at the law's entry, with the method's name -/
def lw_At (p : Program) (s : State) (m : MethodId) (meth : Method) (c : Code) (b L : Nat) (xs : Nat → Int32) : Prop :=
  p.tables.exec = Jvm.exec ∧ c.code = code ∧ meth.sig.returnType = ret ∧ c.maxLocals = 4 ∧ s.vm.findClass RL = some m.cls ∧ (∀ w ∈ lw_tbl, w.before #[Value.ref b] s = true) ∧ va_X b L xs s s.heap ∧ b < s.heap.size ∧ meth.locks = false ∧ meth.name = x.name
def lw_P (b : Addr) (xs : List Int32) (args : Array Value) (s : State) : Prop := args = #[.ref b] ∧ s.IntsAt b xs ∧ xs.length ≤ 384 ∧ (Jvm.Cond.and given_1 narrow_1).before args s = true
def lw_Q (_ : Array Value) (s : State) (o : Outcome) (t : State) : Prop := o = .returned (some (.int 1)) ∧ Framed s o t [] 35 2036
def lw_Z (below : List Frame) (a : Array Value) (s : State) : State → Prop := fun t => ∃ o, t.status = .running ∧ Ended t below o ∧ lw_Q a s o t
/-- the law's own end, with 1 on the stack, nothing written that was there before, its room as the claim has it -/
theorem lw_ret {p : Program} {l : Launch} {e : Env} {s : State} {m : MethodId} {below : List Frame} {meth : Method} {c : Code} {b : Nat} (hx : p.tables.exec = Jvm.exec) (hb : c.code = code) (hr : meth.sig.returnType = ret) (hlocks : meth.locks = false) {pc : Nat} {H : Heap} {ls : Array Slot} (hdg : decode code pc = .ok (.ireturn, 1)) : W p l e room_1 s m #[Value.ref b] below meth c H [] 35 2036 (lw_Z below #[Value.ref b] s) (F0 m pc ls [.int 1]) := by
  intro T hT X
  obtain ⟨fs, hret, hrun, hended, hW, hframe⟩ := X.leave (v := some (.int 1)) (hlocks := hlocks) (fun h => by rw [hr] at h; cases h)
  have hmeth' : T.vm.method? m = some meth := X.method'
  refine ⟨T.setFrames fs, ?_, .returned (some (.int 1)), hrun, hended, rfl, ⟨_, rfl⟩, hW, hframe⟩
  jvm_step X.here [X.here.top, hx, hb, hdg, hmeth', hr, ret, narrow_b1]
  (try refine ⟨rfl, ?_⟩); (try refine ⟨rfl, ?_⟩)
  first | (intro acts; rw [hret _ acts rfl rfl rfl]) | rw [hret _ _ rfl rfl rfl]
  exact Steps.refl _
def ZL (b L : Nat) (xs : Nat → Int32) : ZT := (fun below a s => lw_Z below a s, fun s a => a = #[Value.ref b] ∧ va_X b L xs s s.heap ∧ b < s.heap.size)
theorem V_slen {G : Gm} {b L : Nat} {xs : Nat → Int32} {n : Nat} {ρ : Rho} {pc pc' : Nat} {Lc : List (Option Value)} {st : List Value} {S : AS} (h : Dc M_law pc .arraylength 1 pc') (kk : V G M_law 0 35 (ZL b L xs) n ρ pc' Lc (.int (nI L) :: st) S) : V G M_law 0 35 (ZL b L xs) n ρ pc Lc (.ref b :: st) S := fun p e s m args below meth c E H locs ls hP hS hl => by
  obtain ⟨hd, rfl⟩ := h
  obtain ⟨ha, hX, hbl⟩ := E.2.2.2.2.2.2.2.2.2.2
  have hsz : s.heap.size = gB G + 0 := E.2.2.2.2.2.2.2.2.2.1
  exact va_slen E.1 E.2.1 hX hbl (by omega) hS hd (kk p e s m args below meth c E H locs ls hP hS hl)
theorem V_sld {G : Gm} {b L k : Nat} {xs : Nat → Int32} {n : Nat} {ρ : Rho} {pc pc' : Nat} {Lc : List (Option Value)} {st : List Value} {S : AS} (h : Dc M_law pc .iaload 1 pc') (hk : k < L) (hL : L ≤ 384) (kk : V G M_law 0 35 (ZL b L xs) n ρ pc' Lc (.int (xs (nI k).toNatClampNeg) :: st) S) : V G M_law 0 35 (ZL b L xs) n ρ pc Lc (.int (nI k) :: .ref b :: st) S := fun p e s m args below meth c E H locs ls hP hS hl => by
  obtain ⟨hd, rfl⟩ := h
  obtain ⟨ha, hX, hbl⟩ := E.2.2.2.2.2.2.2.2.2.2
  have hsz : s.heap.size = gB G + 0 := E.2.2.2.2.2.2.2.2.2.1
  exact va_sld E.1 E.2.1 hX hbl (by omega) hS (vp_in_nI hk (by omega)) hd (kk p e s m args below meth c E H locs ls hP hS hl)
theorem SZ_35 : SZ 35 - SZ 0 = 2036 := by decide +kernel
theorem V_lawret {G : Gm} {b L : Nat} {xs : Nat → Int32} {ρ : Rho} {pc pc' : Nat} {Lc : List (Option Value)} {S : AS} (h : Dc M_law pc .ireturn 1 pc') : V G M_law 0 35 (ZL b L xs) 35 ρ pc Lc [.int (nI 1)] S := fun p e s m args below meth c E H locs ls hP hS hl => by
  obtain ⟨hd, rfl⟩ := h
  obtain ⟨ha, hX, hbl⟩ := E.2.2.2.2.2.2.2.2.2.2
  have hsz : s.heap.size = gB G + 0 := E.2.2.2.2.2.2.2.2.2.1
  subst ha
  rw [SZ_35]
  refine va_forget (fun q hq => by have := hS.2.2 q hq; omega) ?_
  exact lw_ret E.1 E.2.1 E.2.2.2.1 E.2.2.2.2.1 hd
theorem and31 (v : Int32) : ∃ r, r < 32 ∧ v &&& nI 31 = nI r := by
  have h1 : (v &&& nI 31).toBitVec.toNat ≤ 31 := by
    rw [Int32.toBitVec_and, BitVec.toNat_and]
    exact Nat.le_trans Nat.and_le_right (by decide)
  refine ⟨(v &&& nI 31).toBitVec.toNat, by omega, ?_⟩
  apply Int32.toBitVec_inj.mp
  apply BitVec.eq_of_toNat_eq
  rw [pk_tn (by omega)]
theorem gt6 {i L : Nat} (hi : i < 2 ^ 30) (hL : L < 2 ^ 30) : nI L - nI 6 < nI i ↔ L < i + 6 := by
  rw [Int32.lt_iff_toInt_lt, pk_sub_toInt hL (by decide), nI_toInt (by omega)]
  omega
set_option maxRecDepth 100000 in
theorem lc_0 {G : Gm} {b L i : Nat} {xs : Nat → Int32} {S : AS} (hL : L ≤ 384) (hi : i + 6 ≤ L) (hS : RelW S) (nx : ∀ S', RelW S' → V G M_law 0 35 (ZL b L xs) 35 rho0 1273 [some (.ref b), some (.ref (gB G + 0)), some (.ref (gB G + 22)), some (.int (nI i))] [] S') : V G M_law 0 35 (ZL b L xs) 35 rho0 168 [some (.ref b), some (.ref (gB G + 0)), some (.ref (gB G + 22)), some (.int (nI i))] [] S := by
  obtain ⟨v, S1, S2, r1, r2, hR⟩ := (o_type (G := G) : OPI G M_X8_type M_X9_type [.int (xs (nI (i + 1)).toNatClampNeg)]) S hS
  refine V_al1 d_law_168 ?_
  refine V_al0 d_law_169 ?_
  refine V_il3 d_law_170 ?_
  refine V_ki d_law_171 ?_
  refine V_iaddN d_law_172 ?_
  refine V_sld d_law_173 (by omega) hL ?_
  refine V_cv1 d_law_174 r1 rfl ⟨by decide, Nat.le_of_ble_eq_true rfl, Nat.zero_le _, Nat.le_refl _, Nat.le_refl _⟩ ?_
  refine V_al2 d_law_177 ?_
  refine V_al0 d_law_178 ?_
  refine V_il3 d_law_179 ?_
  refine V_ki d_law_180 ?_
  refine V_iaddN d_law_181 ?_
  refine V_sld d_law_182 (by omega) hL ?_
  refine V_cv1 d_law_183 r2 rfl ⟨by decide, Nat.le_of_ble_eq_true rfl, Nat.zero_le _, Nat.le_refl _, Nat.le_refl _⟩ ?_
  refine V_ic_eq d_law_186 (fun _ => ?_) (fun q => absurd rfl q)
  exact nx S2 hR
set_option maxRecDepth 100000 in
theorem lc_1 {G : Gm} {b L i : Nat} {xs : Nat → Int32} {S : AS} (hL : L ≤ 384) (hi : i + 6 ≤ L) (hS : RelW S) (nx : ∀ S', RelW S' → V G M_law 0 35 (ZL b L xs) 35 rho0 1273 [some (.ref b), some (.ref (gB G + 0)), some (.ref (gB G + 22)), some (.int (nI i))] [] S') : V G M_law 0 35 (ZL b L xs) 35 rho0 191 [some (.ref b), some (.ref (gB G + 0)), some (.ref (gB G + 22)), some (.int (nI i))] [] S := by
  obtain ⟨v, S1, S2, r1, r2, hR⟩ := (o_wipe (G := G) : OPI G M_X8_wipe M_X9_wipe []) S hS
  refine V_al1 d_law_191 ?_
  refine V_cv0 d_law_192 r1 rfl ⟨by decide, Nat.le_of_ble_eq_true rfl, Nat.zero_le _, Nat.le_refl _, Nat.le_refl _⟩ ?_
  refine V_al2 d_law_195 ?_
  refine V_cv0 d_law_196 r2 rfl ⟨by decide, Nat.le_of_ble_eq_true rfl, Nat.zero_le _, Nat.le_refl _, Nat.le_refl _⟩ ?_
  refine V_ic_eq d_law_199 (fun _ => ?_) (fun q => absurd rfl q)
  exact nx S2 hR
set_option maxRecDepth 100000 in
theorem lc_2 {G : Gm} {b L i : Nat} {xs : Nat → Int32} {S : AS} (hL : L ≤ 384) (hi : i + 6 ≤ L) (hS : RelW S) (nx : ∀ S', RelW S' → V G M_law 0 35 (ZL b L xs) 35 rho0 1273 [some (.ref b), some (.ref (gB G + 0)), some (.ref (gB G + 22)), some (.int (nI i))] [] S') : V G M_law 0 35 (ZL b L xs) 35 rho0 204 [some (.ref b), some (.ref (gB G + 0)), some (.ref (gB G + 22)), some (.int (nI i))] [] S := by
  obtain ⟨v, S1, S2, r1, r2, hR⟩ := (o_fault (G := G) : OPI G M_X8_fault M_X9_fault []) S hS
  refine V_al1 d_law_204 ?_
  refine V_cv0 d_law_205 r1 rfl ⟨by decide, Nat.le_of_ble_eq_true rfl, Nat.zero_le _, Nat.le_refl _, Nat.le_refl _⟩ ?_
  refine V_al2 d_law_208 ?_
  refine V_cv0 d_law_209 r2 rfl ⟨by decide, Nat.le_of_ble_eq_true rfl, Nat.zero_le _, Nat.le_refl _, Nat.le_refl _⟩ ?_
  refine V_ic_eq d_law_212 (fun _ => ?_) (fun q => absurd rfl q)
  exact nx S2 hR
set_option maxRecDepth 100000 in
theorem lc_3 {G : Gm} {b L i : Nat} {xs : Nat → Int32} {S : AS} (hL : L ≤ 384) (hi : i + 6 ≤ L) (hS : RelW S) (nx : ∀ S', RelW S' → V G M_law 0 35 (ZL b L xs) 35 rho0 1273 [some (.ref b), some (.ref (gB G + 0)), some (.ref (gB G + 22)), some (.int (nI i))] [] S') : V G M_law 0 35 (ZL b L xs) 35 rho0 217 [some (.ref b), some (.ref (gB G + 0)), some (.ref (gB G + 22)), some (.int (nI i))] [] S := by
  obtain ⟨v, S1, S2, r1, r2, hR⟩ := (o_worth (G := G) : OPI G M_X8_worth M_X9_worth [.int (xs (nI (i + 1)).toNatClampNeg), .int (xs (nI (i + 2)).toNatClampNeg)]) S hS
  refine V_al1 d_law_217 ?_
  refine V_al0 d_law_218 ?_
  refine V_il3 d_law_219 ?_
  refine V_ki d_law_220 ?_
  refine V_iaddN d_law_221 ?_
  refine V_sld d_law_222 (by omega) hL ?_
  refine V_al0 d_law_223 ?_
  refine V_il3 d_law_224 ?_
  refine V_ki d_law_225 ?_
  refine V_iaddN d_law_226 ?_
  refine V_sld d_law_227 (by omega) hL ?_
  refine V_cv2 d_law_228 r1 rfl ⟨by decide, Nat.le_of_ble_eq_true rfl, Nat.zero_le _, Nat.le_refl _, Nat.le_refl _⟩ ?_
  refine V_al2 d_law_231 ?_
  refine V_al0 d_law_232 ?_
  refine V_il3 d_law_233 ?_
  refine V_ki d_law_234 ?_
  refine V_iaddN d_law_235 ?_
  refine V_sld d_law_236 (by omega) hL ?_
  refine V_al0 d_law_237 ?_
  refine V_il3 d_law_238 ?_
  refine V_ki d_law_239 ?_
  refine V_iaddN d_law_240 ?_
  refine V_sld d_law_241 (by omega) hL ?_
  refine V_cv2 d_law_242 r2 rfl ⟨by decide, Nat.le_of_ble_eq_true rfl, Nat.zero_le _, Nat.le_refl _, Nat.le_refl _⟩ ?_
  refine V_ic_eq d_law_245 (fun _ => ?_) (fun q => absurd rfl q)
  exact nx S2 hR
set_option maxRecDepth 100000 in
theorem lc_4 {G : Gm} {b L i : Nat} {xs : Nat → Int32} {S : AS} (hL : L ≤ 384) (hi : i + 6 ≤ L) (hS : RelW S) (nx : ∀ S', RelW S' → V G M_law 0 35 (ZL b L xs) 35 rho0 1273 [some (.ref b), some (.ref (gB G + 0)), some (.ref (gB G + 22)), some (.int (nI i))] [] S') : V G M_law 0 35 (ZL b L xs) 35 rho0 250 [some (.ref b), some (.ref (gB G + 0)), some (.ref (gB G + 22)), some (.int (nI i))] [] S := by
  obtain ⟨v, S1, S2, r1, r2, hR⟩ := (o_way (G := G) : OPI G M_X8_way M_X9_way [.int (xs (nI (i + 1)).toNatClampNeg), .int (xs (nI (i + 2)).toNatClampNeg), .int (xs (nI (i + 3)).toNatClampNeg)]) S hS
  refine V_al1 d_law_250 ?_
  refine V_al0 d_law_251 ?_
  refine V_il3 d_law_252 ?_
  refine V_ki d_law_253 ?_
  refine V_iaddN d_law_254 ?_
  refine V_sld d_law_255 (by omega) hL ?_
  refine V_al0 d_law_256 ?_
  refine V_il3 d_law_257 ?_
  refine V_ki d_law_258 ?_
  refine V_iaddN d_law_259 ?_
  refine V_sld d_law_260 (by omega) hL ?_
  refine V_al0 d_law_261 ?_
  refine V_il3 d_law_262 ?_
  refine V_ki d_law_263 ?_
  refine V_iaddN d_law_264 ?_
  refine V_sld d_law_265 (by omega) hL ?_
  refine V_cv3 d_law_266 r1 rfl ⟨by decide, Nat.le_of_ble_eq_true rfl, Nat.zero_le _, Nat.le_refl _, Nat.le_refl _⟩ ?_
  refine V_al2 d_law_269 ?_
  refine V_al0 d_law_270 ?_
  refine V_il3 d_law_271 ?_
  refine V_ki d_law_272 ?_
  refine V_iaddN d_law_273 ?_
  refine V_sld d_law_274 (by omega) hL ?_
  refine V_al0 d_law_275 ?_
  refine V_il3 d_law_276 ?_
  refine V_ki d_law_277 ?_
  refine V_iaddN d_law_278 ?_
  refine V_sld d_law_279 (by omega) hL ?_
  refine V_al0 d_law_280 ?_
  refine V_il3 d_law_281 ?_
  refine V_ki d_law_282 ?_
  refine V_iaddN d_law_283 ?_
  refine V_sld d_law_284 (by omega) hL ?_
  refine V_cv3 d_law_285 r2 rfl ⟨by decide, Nat.le_of_ble_eq_true rfl, Nat.zero_le _, Nat.le_refl _, Nat.le_refl _⟩ ?_
  refine V_ic_eq d_law_288 (fun _ => ?_) (fun q => absurd rfl q)
  exact nx S2 hR
set_option maxRecDepth 100000 in
theorem lc_5 {G : Gm} {b L i : Nat} {xs : Nat → Int32} {S : AS} (hL : L ≤ 384) (hi : i + 6 ≤ L) (hS : RelW S) (nx : ∀ S', RelW S' → V G M_law 0 35 (ZL b L xs) 35 rho0 1273 [some (.ref b), some (.ref (gB G + 0)), some (.ref (gB G + 22)), some (.int (nI i))] [] S') : V G M_law 0 35 (ZL b L xs) 35 rho0 293 [some (.ref b), some (.ref (gB G + 0)), some (.ref (gB G + 22)), some (.int (nI i))] [] S := by
  obtain ⟨v, S1, S2, r1, r2, hR⟩ := (o_set (G := G) : OPI G M_X8_set M_X9_set [.int (xs (nI (i + 1)).toNatClampNeg), .int (xs (nI (i + 2)).toNatClampNeg)]) S hS
  refine V_al1 d_law_293 ?_
  refine V_al0 d_law_294 ?_
  refine V_il3 d_law_295 ?_
  refine V_ki d_law_296 ?_
  refine V_iaddN d_law_297 ?_
  refine V_sld d_law_298 (by omega) hL ?_
  refine V_al0 d_law_299 ?_
  refine V_il3 d_law_300 ?_
  refine V_ki d_law_301 ?_
  refine V_iaddN d_law_302 ?_
  refine V_sld d_law_303 (by omega) hL ?_
  refine V_cv2 d_law_304 r1 rfl ⟨by decide, Nat.le_of_ble_eq_true rfl, Nat.zero_le _, Nat.le_refl _, Nat.le_refl _⟩ ?_
  refine V_al2 d_law_307 ?_
  refine V_al0 d_law_308 ?_
  refine V_il3 d_law_309 ?_
  refine V_ki d_law_310 ?_
  refine V_iaddN d_law_311 ?_
  refine V_sld d_law_312 (by omega) hL ?_
  refine V_al0 d_law_313 ?_
  refine V_il3 d_law_314 ?_
  refine V_ki d_law_315 ?_
  refine V_iaddN d_law_316 ?_
  refine V_sld d_law_317 (by omega) hL ?_
  refine V_cv2 d_law_318 r2 rfl ⟨by decide, Nat.le_of_ble_eq_true rfl, Nat.zero_le _, Nat.le_refl _, Nat.le_refl _⟩ ?_
  refine V_ic_eq d_law_321 (fun _ => ?_) (fun q => absurd rfl q)
  exact nx S2 hR
set_option maxRecDepth 100000 in
theorem lc_6 {G : Gm} {b L i : Nat} {xs : Nat → Int32} {S : AS} (hL : L ≤ 384) (hi : i + 6 ≤ L) (hS : RelW S) (nx : ∀ S', RelW S' → V G M_law 0 35 (ZL b L xs) 35 rho0 1273 [some (.ref b), some (.ref (gB G + 0)), some (.ref (gB G + 22)), some (.int (nI i))] [] S') : V G M_law 0 35 (ZL b L xs) 35 rho0 326 [some (.ref b), some (.ref (gB G + 0)), some (.ref (gB G + 22)), some (.int (nI i))] [] S := by
  obtain ⟨v, S1, S2, r1, r2, hR⟩ := (o_read (G := G) : OPI G M_X8_read M_X9_read [.int (xs (nI (i + 1)).toNatClampNeg)]) S hS
  refine V_al1 d_law_326 ?_
  refine V_al0 d_law_327 ?_
  refine V_il3 d_law_328 ?_
  refine V_ki d_law_329 ?_
  refine V_iaddN d_law_330 ?_
  refine V_sld d_law_331 (by omega) hL ?_
  refine V_cv1 d_law_332 r1 rfl ⟨by decide, Nat.le_of_ble_eq_true rfl, Nat.zero_le _, Nat.le_refl _, Nat.le_refl _⟩ ?_
  refine V_al2 d_law_335 ?_
  refine V_al0 d_law_336 ?_
  refine V_il3 d_law_337 ?_
  refine V_ki d_law_338 ?_
  refine V_iaddN d_law_339 ?_
  refine V_sld d_law_340 (by omega) hL ?_
  refine V_cv1 d_law_341 r2 rfl ⟨by decide, Nat.le_of_ble_eq_true rfl, Nat.zero_le _, Nat.le_refl _, Nat.le_refl _⟩ ?_
  refine V_ic_eq d_law_344 (fun _ => ?_) (fun q => absurd rfl q)
  exact nx S2 hR
set_option maxRecDepth 100000 in
theorem lc_7 {G : Gm} {b L i : Nat} {xs : Nat → Int32} {S : AS} (hL : L ≤ 384) (hi : i + 6 ≤ L) (hS : RelW S) (nx : ∀ S', RelW S' → V G M_law 0 35 (ZL b L xs) 35 rho0 1273 [some (.ref b), some (.ref (gB G + 0)), some (.ref (gB G + 22)), some (.int (nI i))] [] S') : V G M_law 0 35 (ZL b L xs) 35 rho0 349 [some (.ref b), some (.ref (gB G + 0)), some (.ref (gB G + 22)), some (.int (nI i))] [] S := by
  obtain ⟨v, S1, S2, r1, r2, hR⟩ := (o_night (G := G) : OPI G M_X8_night M_X9_night [.int (xs (nI (i + 1)).toNatClampNeg), .int (xs (nI (i + 2)).toNatClampNeg)]) S hS
  refine V_al1 d_law_349 ?_
  refine V_al0 d_law_350 ?_
  refine V_il3 d_law_351 ?_
  refine V_ki d_law_352 ?_
  refine V_iaddN d_law_353 ?_
  refine V_sld d_law_354 (by omega) hL ?_
  refine V_al0 d_law_355 ?_
  refine V_il3 d_law_356 ?_
  refine V_ki d_law_357 ?_
  refine V_iaddN d_law_358 ?_
  refine V_sld d_law_359 (by omega) hL ?_
  refine V_cv2 d_law_360 r1 rfl ⟨by decide, Nat.le_of_ble_eq_true rfl, Nat.zero_le _, Nat.le_refl _, Nat.le_refl _⟩ ?_
  refine V_al2 d_law_363 ?_
  refine V_al0 d_law_364 ?_
  refine V_il3 d_law_365 ?_
  refine V_ki d_law_366 ?_
  refine V_iaddN d_law_367 ?_
  refine V_sld d_law_368 (by omega) hL ?_
  refine V_al0 d_law_369 ?_
  refine V_il3 d_law_370 ?_
  refine V_ki d_law_371 ?_
  refine V_iaddN d_law_372 ?_
  refine V_sld d_law_373 (by omega) hL ?_
  refine V_cv2 d_law_374 r2 rfl ⟨by decide, Nat.le_of_ble_eq_true rfl, Nat.zero_le _, Nat.le_refl _, Nat.le_refl _⟩ ?_
  refine V_ic_eq d_law_377 (fun _ => ?_) (fun q => absurd rfl q)
  exact nx S2 hR
set_option maxRecDepth 100000 in
theorem lc_8 {G : Gm} {b L i : Nat} {xs : Nat → Int32} {S : AS} (hL : L ≤ 384) (hi : i + 6 ≤ L) (hS : RelW S) (nx : ∀ S', RelW S' → V G M_law 0 35 (ZL b L xs) 35 rho0 1273 [some (.ref b), some (.ref (gB G + 0)), some (.ref (gB G + 22)), some (.int (nI i))] [] S') : V G M_law 0 35 (ZL b L xs) 35 rho0 382 [some (.ref b), some (.ref (gB G + 0)), some (.ref (gB G + 22)), some (.int (nI i))] [] S := by
  obtain ⟨v, S1, S2, r1, r2, hR⟩ := (o_at (G := G) : OPI G M_X8_at M_X9_at [.int (xs (nI (i + 1)).toNatClampNeg), .int (xs (nI (i + 2)).toNatClampNeg)]) S hS
  refine V_al1 d_law_382 ?_
  refine V_al0 d_law_383 ?_
  refine V_il3 d_law_384 ?_
  refine V_ki d_law_385 ?_
  refine V_iaddN d_law_386 ?_
  refine V_sld d_law_387 (by omega) hL ?_
  refine V_al0 d_law_388 ?_
  refine V_il3 d_law_389 ?_
  refine V_ki d_law_390 ?_
  refine V_iaddN d_law_391 ?_
  refine V_sld d_law_392 (by omega) hL ?_
  refine V_cv2 d_law_393 r1 rfl ⟨by decide, Nat.le_of_ble_eq_true rfl, Nat.zero_le _, Nat.le_refl _, Nat.le_refl _⟩ ?_
  refine V_al2 d_law_396 ?_
  refine V_al0 d_law_397 ?_
  refine V_il3 d_law_398 ?_
  refine V_ki d_law_399 ?_
  refine V_iaddN d_law_400 ?_
  refine V_sld d_law_401 (by omega) hL ?_
  refine V_al0 d_law_402 ?_
  refine V_il3 d_law_403 ?_
  refine V_ki d_law_404 ?_
  refine V_iaddN d_law_405 ?_
  refine V_sld d_law_406 (by omega) hL ?_
  refine V_cv2 d_law_407 r2 rfl ⟨by decide, Nat.le_of_ble_eq_true rfl, Nat.zero_le _, Nat.le_refl _, Nat.le_refl _⟩ ?_
  refine V_ic_eq d_law_410 (fun _ => ?_) (fun q => absurd rfl q)
  exact nx S2 hR
set_option maxRecDepth 100000 in
theorem lc_9 {G : Gm} {b L i : Nat} {xs : Nat → Int32} {S : AS} (hL : L ≤ 384) (hi : i + 6 ≤ L) (hS : RelW S) (nx : ∀ S', RelW S' → V G M_law 0 35 (ZL b L xs) 35 rho0 1273 [some (.ref b), some (.ref (gB G + 0)), some (.ref (gB G + 22)), some (.int (nI i))] [] S') : V G M_law 0 35 (ZL b L xs) 35 rho0 415 [some (.ref b), some (.ref (gB G + 0)), some (.ref (gB G + 22)), some (.int (nI i))] [] S := by
  obtain ⟨v, S1, S2, r1, r2, hR⟩ := (o_when (G := G) : OPI G M_X8_when M_X9_when [.int (xs (nI (i + 1)).toNatClampNeg), .int (xs (nI (i + 2)).toNatClampNeg)]) S hS
  refine V_al1 d_law_415 ?_
  refine V_al0 d_law_416 ?_
  refine V_il3 d_law_417 ?_
  refine V_ki d_law_418 ?_
  refine V_iaddN d_law_419 ?_
  refine V_sld d_law_420 (by omega) hL ?_
  refine V_al0 d_law_421 ?_
  refine V_il3 d_law_422 ?_
  refine V_ki d_law_423 ?_
  refine V_iaddN d_law_424 ?_
  refine V_sld d_law_425 (by omega) hL ?_
  refine V_cv2 d_law_426 r1 rfl ⟨by decide, Nat.le_of_ble_eq_true rfl, Nat.zero_le _, Nat.le_refl _, Nat.le_refl _⟩ ?_
  refine V_al2 d_law_429 ?_
  refine V_al0 d_law_430 ?_
  refine V_il3 d_law_431 ?_
  refine V_ki d_law_432 ?_
  refine V_iaddN d_law_433 ?_
  refine V_sld d_law_434 (by omega) hL ?_
  refine V_al0 d_law_435 ?_
  refine V_il3 d_law_436 ?_
  refine V_ki d_law_437 ?_
  refine V_iaddN d_law_438 ?_
  refine V_sld d_law_439 (by omega) hL ?_
  refine V_cv2 d_law_440 r2 rfl ⟨by decide, Nat.le_of_ble_eq_true rfl, Nat.zero_le _, Nat.le_refl _, Nat.le_refl _⟩ ?_
  refine V_ic_eq d_law_443 (fun _ => ?_) (fun q => absurd rfl q)
  exact nx S2 hR
set_option maxRecDepth 100000 in
theorem lc_10 {G : Gm} {b L i : Nat} {xs : Nat → Int32} {S : AS} (hL : L ≤ 384) (hi : i + 6 ≤ L) (hS : RelW S) (nx : ∀ S', RelW S' → V G M_law 0 35 (ZL b L xs) 35 rho0 1273 [some (.ref b), some (.ref (gB G + 0)), some (.ref (gB G + 22)), some (.int (nI i))] [] S') : V G M_law 0 35 (ZL b L xs) 35 rho0 448 [some (.ref b), some (.ref (gB G + 0)), some (.ref (gB G + 22)), some (.int (nI i))] [] S := by
  obtain ⟨v, S1, S2, r1, r2, hR⟩ := (o_alone (G := G) : OPI G M_X8_alone M_X9_alone [.int (xs (nI (i + 1)).toNatClampNeg), .int (xs (nI (i + 2)).toNatClampNeg), .int (xs (nI (i + 3)).toNatClampNeg)]) S hS
  refine V_al1 d_law_448 ?_
  refine V_al0 d_law_449 ?_
  refine V_il3 d_law_450 ?_
  refine V_ki d_law_451 ?_
  refine V_iaddN d_law_452 ?_
  refine V_sld d_law_453 (by omega) hL ?_
  refine V_al0 d_law_454 ?_
  refine V_il3 d_law_455 ?_
  refine V_ki d_law_456 ?_
  refine V_iaddN d_law_457 ?_
  refine V_sld d_law_458 (by omega) hL ?_
  refine V_al0 d_law_459 ?_
  refine V_il3 d_law_460 ?_
  refine V_ki d_law_461 ?_
  refine V_iaddN d_law_462 ?_
  refine V_sld d_law_463 (by omega) hL ?_
  refine V_cv3 d_law_464 r1 rfl ⟨by decide, Nat.le_of_ble_eq_true rfl, Nat.zero_le _, Nat.le_refl _, Nat.le_refl _⟩ ?_
  refine V_al2 d_law_467 ?_
  refine V_al0 d_law_468 ?_
  refine V_il3 d_law_469 ?_
  refine V_ki d_law_470 ?_
  refine V_iaddN d_law_471 ?_
  refine V_sld d_law_472 (by omega) hL ?_
  refine V_al0 d_law_473 ?_
  refine V_il3 d_law_474 ?_
  refine V_ki d_law_475 ?_
  refine V_iaddN d_law_476 ?_
  refine V_sld d_law_477 (by omega) hL ?_
  refine V_al0 d_law_478 ?_
  refine V_il3 d_law_479 ?_
  refine V_ki d_law_480 ?_
  refine V_iaddN d_law_481 ?_
  refine V_sld d_law_482 (by omega) hL ?_
  refine V_cv3 d_law_483 r2 rfl ⟨by decide, Nat.le_of_ble_eq_true rfl, Nat.zero_le _, Nat.le_refl _, Nat.le_refl _⟩ ?_
  refine V_ic_eq d_law_486 (fun _ => ?_) (fun q => absurd rfl q)
  exact nx S2 hR
set_option maxRecDepth 100000 in
theorem lc_11 {G : Gm} {b L i : Nat} {xs : Nat → Int32} {S : AS} (hL : L ≤ 384) (hi : i + 6 ≤ L) (hS : RelW S) (nx : ∀ S', RelW S' → V G M_law 0 35 (ZL b L xs) 35 rho0 1273 [some (.ref b), some (.ref (gB G + 0)), some (.ref (gB G + 22)), some (.int (nI i))] [] S') : V G M_law 0 35 (ZL b L xs) 35 rho0 491 [some (.ref b), some (.ref (gB G + 0)), some (.ref (gB G + 22)), some (.int (nI i))] [] S := by
  obtain ⟨v, S1, S2, r1, r2, hR⟩ := (o_steals (G := G) : OPI G M_X8_steals M_X9_steals [.int (xs (nI (i + 1)).toNatClampNeg), .int (xs (nI (i + 2)).toNatClampNeg), .int (xs (nI (i + 3)).toNatClampNeg)]) S hS
  refine V_al1 d_law_491 ?_
  refine V_al0 d_law_492 ?_
  refine V_il3 d_law_493 ?_
  refine V_ki d_law_494 ?_
  refine V_iaddN d_law_495 ?_
  refine V_sld d_law_496 (by omega) hL ?_
  refine V_al0 d_law_497 ?_
  refine V_il3 d_law_498 ?_
  refine V_ki d_law_499 ?_
  refine V_iaddN d_law_500 ?_
  refine V_sld d_law_501 (by omega) hL ?_
  refine V_al0 d_law_502 ?_
  refine V_il3 d_law_503 ?_
  refine V_ki d_law_504 ?_
  refine V_iaddN d_law_505 ?_
  refine V_sld d_law_506 (by omega) hL ?_
  refine V_cv3 d_law_507 r1 rfl ⟨by decide, Nat.le_of_ble_eq_true rfl, Nat.zero_le _, Nat.le_refl _, Nat.le_refl _⟩ ?_
  refine V_al2 d_law_510 ?_
  refine V_al0 d_law_511 ?_
  refine V_il3 d_law_512 ?_
  refine V_ki d_law_513 ?_
  refine V_iaddN d_law_514 ?_
  refine V_sld d_law_515 (by omega) hL ?_
  refine V_al0 d_law_516 ?_
  refine V_il3 d_law_517 ?_
  refine V_ki d_law_518 ?_
  refine V_iaddN d_law_519 ?_
  refine V_sld d_law_520 (by omega) hL ?_
  refine V_al0 d_law_521 ?_
  refine V_il3 d_law_522 ?_
  refine V_ki d_law_523 ?_
  refine V_iaddN d_law_524 ?_
  refine V_sld d_law_525 (by omega) hL ?_
  refine V_cv3 d_law_526 r2 rfl ⟨by decide, Nat.le_of_ble_eq_true rfl, Nat.zero_le _, Nat.le_refl _, Nat.le_refl _⟩ ?_
  refine V_ic_eq d_law_529 (fun _ => ?_) (fun q => absurd rfl q)
  exact nx S2 hR
set_option maxRecDepth 100000 in
theorem lc_12 {G : Gm} {b L i : Nat} {xs : Nat → Int32} {S : AS} (hL : L ≤ 384) (hi : i + 6 ≤ L) (hS : RelW S) (nx : ∀ S', RelW S' → V G M_law 0 35 (ZL b L xs) 35 rho0 1273 [some (.ref b), some (.ref (gB G + 0)), some (.ref (gB G + 22)), some (.int (nI i))] [] S') : V G M_law 0 35 (ZL b L xs) 35 rho0 534 [some (.ref b), some (.ref (gB G + 0)), some (.ref (gB G + 22)), some (.int (nI i))] [] S := by
  obtain ⟨v, S1, S2, r1, r2, hR⟩ := (o_next (G := G) : OPL G M_X8_next M_X9_next [.int (xs (nI (i + 1)).toNatClampNeg), .int (xs (nI (i + 2)).toNatClampNeg), .int (xs (nI (i + 3)).toNatClampNeg), .int (xs (nI (i + 4)).toNatClampNeg)]) S hS
  refine V_al1 d_law_534 ?_
  refine V_al0 d_law_535 ?_
  refine V_il3 d_law_536 ?_
  refine V_ki d_law_537 ?_
  refine V_iaddN d_law_538 ?_
  refine V_sld d_law_539 (by omega) hL ?_
  refine V_al0 d_law_540 ?_
  refine V_il3 d_law_541 ?_
  refine V_ki d_law_542 ?_
  refine V_iaddN d_law_543 ?_
  refine V_sld d_law_544 (by omega) hL ?_
  refine V_al0 d_law_545 ?_
  refine V_il3 d_law_546 ?_
  refine V_ki d_law_547 ?_
  refine V_iaddN d_law_548 ?_
  refine V_sld d_law_549 (by omega) hL ?_
  refine V_al0 d_law_550 ?_
  refine V_il3 d_law_551 ?_
  refine V_ki d_law_552 ?_
  refine V_iaddN d_law_553 ?_
  refine V_sld d_law_554 (by omega) hL ?_
  refine V_cv4 d_law_555 r1 rfl ⟨by decide, Nat.le_of_ble_eq_true rfl, Nat.zero_le _, Nat.le_refl _, Nat.le_refl _⟩ ?_
  refine V_al2 d_law_558 ?_
  refine V_al0 d_law_559 ?_
  refine V_il3 d_law_560 ?_
  refine V_ki d_law_561 ?_
  refine V_iaddN d_law_562 ?_
  refine V_sld d_law_563 (by omega) hL ?_
  refine V_al0 d_law_564 ?_
  refine V_il3 d_law_565 ?_
  refine V_ki d_law_566 ?_
  refine V_iaddN d_law_567 ?_
  refine V_sld d_law_568 (by omega) hL ?_
  refine V_al0 d_law_569 ?_
  refine V_il3 d_law_570 ?_
  refine V_ki d_law_571 ?_
  refine V_iaddN d_law_572 ?_
  refine V_sld d_law_573 (by omega) hL ?_
  refine V_al0 d_law_574 ?_
  refine V_il3 d_law_575 ?_
  refine V_ki d_law_576 ?_
  refine V_iaddN d_law_577 ?_
  refine V_sld d_law_578 (by omega) hL ?_
  refine V_cv4 d_law_579 r2 rfl ⟨by decide, Nat.le_of_ble_eq_true rfl, Nat.zero_le _, Nat.le_refl _, Nat.le_refl _⟩ ?_
  refine V_lcmp d_law_582 ?_
  refine V_if_eq d_law_583 (fun _ => ?_) (fun q => absurd ((lg_cmp_eq _ _).mpr rfl) q)
  exact nx S2 hR
set_option maxRecDepth 100000 in
theorem lc_13 {G : Gm} {b L i : Nat} {xs : Nat → Int32} {S : AS} (hL : L ≤ 384) (hi : i + 6 ≤ L) (hS : RelW S) (nx : ∀ S', RelW S' → V G M_law 0 35 (ZL b L xs) 35 rho0 1273 [some (.ref b), some (.ref (gB G + 0)), some (.ref (gB G + 22)), some (.int (nI i))] [] S') : V G M_law 0 35 (ZL b L xs) 35 rho0 588 [some (.ref b), some (.ref (gB G + 0)), some (.ref (gB G + 22)), some (.int (nI i))] [] S := by
  obtain ⟨v, S1, S2, r1, r2, hR⟩ := (o_likely (G := G) : OPL G M_X8_likely M_X9_likely [.int (xs (nI (i + 1)).toNatClampNeg), .int (xs (nI (i + 2)).toNatClampNeg)]) S hS
  refine V_al1 d_law_588 ?_
  refine V_al0 d_law_589 ?_
  refine V_il3 d_law_590 ?_
  refine V_ki d_law_591 ?_
  refine V_iaddN d_law_592 ?_
  refine V_sld d_law_593 (by omega) hL ?_
  refine V_al0 d_law_594 ?_
  refine V_il3 d_law_595 ?_
  refine V_ki d_law_596 ?_
  refine V_iaddN d_law_597 ?_
  refine V_sld d_law_598 (by omega) hL ?_
  refine V_cv2 d_law_599 r1 rfl ⟨by decide, Nat.le_of_ble_eq_true rfl, Nat.zero_le _, Nat.le_refl _, Nat.le_refl _⟩ ?_
  refine V_al2 d_law_602 ?_
  refine V_al0 d_law_603 ?_
  refine V_il3 d_law_604 ?_
  refine V_ki d_law_605 ?_
  refine V_iaddN d_law_606 ?_
  refine V_sld d_law_607 (by omega) hL ?_
  refine V_al0 d_law_608 ?_
  refine V_il3 d_law_609 ?_
  refine V_ki d_law_610 ?_
  refine V_iaddN d_law_611 ?_
  refine V_sld d_law_612 (by omega) hL ?_
  refine V_cv2 d_law_613 r2 rfl ⟨by decide, Nat.le_of_ble_eq_true rfl, Nat.zero_le _, Nat.le_refl _, Nat.le_refl _⟩ ?_
  refine V_lcmp d_law_616 ?_
  refine V_if_eq d_law_617 (fun _ => ?_) (fun q => absurd ((lg_cmp_eq _ _).mpr rfl) q)
  exact nx S2 hR
set_option maxRecDepth 100000 in
theorem lc_14 {G : Gm} {b L i : Nat} {xs : Nat → Int32} {S : AS} (hL : L ≤ 384) (hi : i + 6 ≤ L) (hS : RelW S) (nx : ∀ S', RelW S' → V G M_law 0 35 (ZL b L xs) 35 rho0 1273 [some (.ref b), some (.ref (gB G + 0)), some (.ref (gB G + 22)), some (.int (nI i))] [] S') : V G M_law 0 35 (ZL b L xs) 35 rho0 622 [some (.ref b), some (.ref (gB G + 0)), some (.ref (gB G + 22)), some (.int (nI i))] [] S := by
  obtain ⟨v, S1, S2, r1, r2, hR⟩ := (o_fresh (G := G) : OPI G M_X8_fresh M_X9_fresh [.int (xs (nI (i + 1)).toNatClampNeg)]) S hS
  refine V_al1 d_law_622 ?_
  refine V_al0 d_law_623 ?_
  refine V_il3 d_law_624 ?_
  refine V_ki d_law_625 ?_
  refine V_iaddN d_law_626 ?_
  refine V_sld d_law_627 (by omega) hL ?_
  refine V_cv1 d_law_628 r1 rfl ⟨by decide, Nat.le_of_ble_eq_true rfl, Nat.zero_le _, Nat.le_refl _, Nat.le_refl _⟩ ?_
  refine V_al2 d_law_631 ?_
  refine V_al0 d_law_632 ?_
  refine V_il3 d_law_633 ?_
  refine V_ki d_law_634 ?_
  refine V_iaddN d_law_635 ?_
  refine V_sld d_law_636 (by omega) hL ?_
  refine V_cv1 d_law_637 r2 rfl ⟨by decide, Nat.le_of_ble_eq_true rfl, Nat.zero_le _, Nat.le_refl _, Nat.le_refl _⟩ ?_
  refine V_ic_eq d_law_640 (fun _ => ?_) (fun q => absurd rfl q)
  exact nx S2 hR
set_option maxRecDepth 100000 in
theorem lc_15 {G : Gm} {b L i : Nat} {xs : Nat → Int32} {S : AS} (hL : L ≤ 384) (hi : i + 6 ≤ L) (hS : RelW S) (nx : ∀ S', RelW S' → V G M_law 0 35 (ZL b L xs) 35 rho0 1273 [some (.ref b), some (.ref (gB G + 0)), some (.ref (gB G + 22)), some (.int (nI i))] [] S') : V G M_law 0 35 (ZL b L xs) 35 rho0 645 [some (.ref b), some (.ref (gB G + 0)), some (.ref (gB G + 22)), some (.int (nI i))] [] S := by
  obtain ⟨v, S1, S2, r1, r2, hR⟩ := (o_breaks (G := G) : OPI G M_X8_breaks M_X9_breaks [.int (xs (nI (i + 1)).toNatClampNeg), .int (xs (nI (i + 2)).toNatClampNeg), .int (xs (nI (i + 3)).toNatClampNeg), .int (xs (nI (i + 4)).toNatClampNeg)]) S hS
  refine V_al1 d_law_645 ?_
  refine V_al0 d_law_646 ?_
  refine V_il3 d_law_647 ?_
  refine V_ki d_law_648 ?_
  refine V_iaddN d_law_649 ?_
  refine V_sld d_law_650 (by omega) hL ?_
  refine V_al0 d_law_651 ?_
  refine V_il3 d_law_652 ?_
  refine V_ki d_law_653 ?_
  refine V_iaddN d_law_654 ?_
  refine V_sld d_law_655 (by omega) hL ?_
  refine V_al0 d_law_656 ?_
  refine V_il3 d_law_657 ?_
  refine V_ki d_law_658 ?_
  refine V_iaddN d_law_659 ?_
  refine V_sld d_law_660 (by omega) hL ?_
  refine V_al0 d_law_661 ?_
  refine V_il3 d_law_662 ?_
  refine V_ki d_law_663 ?_
  refine V_iaddN d_law_664 ?_
  refine V_sld d_law_665 (by omega) hL ?_
  refine V_cv4 d_law_666 r1 rfl ⟨by decide, Nat.le_of_ble_eq_true rfl, Nat.zero_le _, Nat.le_refl _, Nat.le_refl _⟩ ?_
  refine V_al2 d_law_669 ?_
  refine V_al0 d_law_670 ?_
  refine V_il3 d_law_671 ?_
  refine V_ki d_law_672 ?_
  refine V_iaddN d_law_673 ?_
  refine V_sld d_law_674 (by omega) hL ?_
  refine V_al0 d_law_675 ?_
  refine V_il3 d_law_676 ?_
  refine V_ki d_law_677 ?_
  refine V_iaddN d_law_678 ?_
  refine V_sld d_law_679 (by omega) hL ?_
  refine V_al0 d_law_680 ?_
  refine V_il3 d_law_681 ?_
  refine V_ki d_law_682 ?_
  refine V_iaddN d_law_683 ?_
  refine V_sld d_law_684 (by omega) hL ?_
  refine V_al0 d_law_685 ?_
  refine V_il3 d_law_686 ?_
  refine V_ki d_law_687 ?_
  refine V_iaddN d_law_688 ?_
  refine V_sld d_law_689 (by omega) hL ?_
  refine V_cv4 d_law_690 r2 rfl ⟨by decide, Nat.le_of_ble_eq_true rfl, Nat.zero_le _, Nat.le_refl _, Nat.le_refl _⟩ ?_
  refine V_ic_eq d_law_693 (fun _ => ?_) (fun q => absurd rfl q)
  exact nx S2 hR
set_option maxRecDepth 100000 in
theorem lc_16 {G : Gm} {b L i : Nat} {xs : Nat → Int32} {S : AS} (hL : L ≤ 384) (hi : i + 6 ≤ L) (hS : RelW S) (nx : ∀ S', RelW S' → V G M_law 0 35 (ZL b L xs) 35 rho0 1273 [some (.ref b), some (.ref (gB G + 0)), some (.ref (gB G + 22)), some (.int (nI i))] [] S') : V G M_law 0 35 (ZL b L xs) 35 rho0 698 [some (.ref b), some (.ref (gB G + 0)), some (.ref (gB G + 22)), some (.int (nI i))] [] S := by
  obtain ⟨v, S1, S2, r1, r2, hR⟩ := (o_seen (G := G) : OPI G M_X8_seen M_X9_seen [.int (xs (nI (i + 1)).toNatClampNeg), .int (xs (nI (i + 2)).toNatClampNeg), .int (xs (nI (i + 3)).toNatClampNeg), .int (xs (nI (i + 4)).toNatClampNeg), .int (xs (nI (i + 5)).toNatClampNeg)]) S hS
  refine V_al1 d_law_698 ?_
  refine V_al0 d_law_699 ?_
  refine V_il3 d_law_700 ?_
  refine V_ki d_law_701 ?_
  refine V_iaddN d_law_702 ?_
  refine V_sld d_law_703 (by omega) hL ?_
  refine V_al0 d_law_704 ?_
  refine V_il3 d_law_705 ?_
  refine V_ki d_law_706 ?_
  refine V_iaddN d_law_707 ?_
  refine V_sld d_law_708 (by omega) hL ?_
  refine V_al0 d_law_709 ?_
  refine V_il3 d_law_710 ?_
  refine V_ki d_law_711 ?_
  refine V_iaddN d_law_712 ?_
  refine V_sld d_law_713 (by omega) hL ?_
  refine V_al0 d_law_714 ?_
  refine V_il3 d_law_715 ?_
  refine V_ki d_law_716 ?_
  refine V_iaddN d_law_717 ?_
  refine V_sld d_law_718 (by omega) hL ?_
  refine V_al0 d_law_719 ?_
  refine V_il3 d_law_720 ?_
  refine V_ki d_law_721 ?_
  refine V_iaddN d_law_722 ?_
  refine V_sld d_law_723 (by omega) hL ?_
  refine V_cv5 d_law_724 r1 rfl ⟨by decide, Nat.le_of_ble_eq_true rfl, Nat.zero_le _, Nat.le_refl _, Nat.le_refl _⟩ ?_
  refine V_al2 d_law_727 ?_
  refine V_al0 d_law_728 ?_
  refine V_il3 d_law_729 ?_
  refine V_ki d_law_730 ?_
  refine V_iaddN d_law_731 ?_
  refine V_sld d_law_732 (by omega) hL ?_
  refine V_al0 d_law_733 ?_
  refine V_il3 d_law_734 ?_
  refine V_ki d_law_735 ?_
  refine V_iaddN d_law_736 ?_
  refine V_sld d_law_737 (by omega) hL ?_
  refine V_al0 d_law_738 ?_
  refine V_il3 d_law_739 ?_
  refine V_ki d_law_740 ?_
  refine V_iaddN d_law_741 ?_
  refine V_sld d_law_742 (by omega) hL ?_
  refine V_al0 d_law_743 ?_
  refine V_il3 d_law_744 ?_
  refine V_ki d_law_745 ?_
  refine V_iaddN d_law_746 ?_
  refine V_sld d_law_747 (by omega) hL ?_
  refine V_al0 d_law_748 ?_
  refine V_il3 d_law_749 ?_
  refine V_ki d_law_750 ?_
  refine V_iaddN d_law_751 ?_
  refine V_sld d_law_752 (by omega) hL ?_
  refine V_cv5 d_law_753 r2 rfl ⟨by decide, Nat.le_of_ble_eq_true rfl, Nat.zero_le _, Nat.le_refl _, Nat.le_refl _⟩ ?_
  refine V_ic_eq d_law_756 (fun _ => ?_) (fun q => absurd rfl q)
  exact nx S2 hR
set_option maxRecDepth 100000 in
theorem lc_17 {G : Gm} {b L i : Nat} {xs : Nat → Int32} {S : AS} (hL : L ≤ 384) (hi : i + 6 ≤ L) (hS : RelW S) (nx : ∀ S', RelW S' → V G M_law 0 35 (ZL b L xs) 35 rho0 1273 [some (.ref b), some (.ref (gB G + 0)), some (.ref (gB G + 22)), some (.int (nI i))] [] S') : V G M_law 0 35 (ZL b L xs) 35 rho0 761 [some (.ref b), some (.ref (gB G + 0)), some (.ref (gB G + 22)), some (.int (nI i))] [] S := by
  obtain ⟨v, S1, S2, r1, r2, hR⟩ := (o_least (G := G) : OPL G M_X8_least M_X9_least [.int (xs (nI (i + 1)).toNatClampNeg), .int (xs (nI (i + 2)).toNatClampNeg), .int (xs (nI (i + 3)).toNatClampNeg)]) S hS
  refine V_al1 d_law_761 ?_
  refine V_al0 d_law_762 ?_
  refine V_il3 d_law_763 ?_
  refine V_ki d_law_764 ?_
  refine V_iaddN d_law_765 ?_
  refine V_sld d_law_766 (by omega) hL ?_
  refine V_al0 d_law_767 ?_
  refine V_il3 d_law_768 ?_
  refine V_ki d_law_769 ?_
  refine V_iaddN d_law_770 ?_
  refine V_sld d_law_771 (by omega) hL ?_
  refine V_al0 d_law_772 ?_
  refine V_il3 d_law_773 ?_
  refine V_ki d_law_774 ?_
  refine V_iaddN d_law_775 ?_
  refine V_sld d_law_776 (by omega) hL ?_
  refine V_cv3 d_law_777 r1 rfl ⟨by decide, Nat.le_of_ble_eq_true rfl, Nat.zero_le _, Nat.le_refl _, Nat.le_refl _⟩ ?_
  refine V_al2 d_law_780 ?_
  refine V_al0 d_law_781 ?_
  refine V_il3 d_law_782 ?_
  refine V_ki d_law_783 ?_
  refine V_iaddN d_law_784 ?_
  refine V_sld d_law_785 (by omega) hL ?_
  refine V_al0 d_law_786 ?_
  refine V_il3 d_law_787 ?_
  refine V_ki d_law_788 ?_
  refine V_iaddN d_law_789 ?_
  refine V_sld d_law_790 (by omega) hL ?_
  refine V_al0 d_law_791 ?_
  refine V_il3 d_law_792 ?_
  refine V_ki d_law_793 ?_
  refine V_iaddN d_law_794 ?_
  refine V_sld d_law_795 (by omega) hL ?_
  refine V_cv3 d_law_796 r2 rfl ⟨by decide, Nat.le_of_ble_eq_true rfl, Nat.zero_le _, Nat.le_refl _, Nat.le_refl _⟩ ?_
  refine V_lcmp d_law_799 ?_
  refine V_if_eq d_law_800 (fun _ => ?_) (fun q => absurd ((lg_cmp_eq _ _).mpr rfl) q)
  exact nx S2 hR
set_option maxRecDepth 100000 in
theorem lc_18 {G : Gm} {b L i : Nat} {xs : Nat → Int32} {S : AS} (hL : L ≤ 384) (hi : i + 6 ≤ L) (hS : RelW S) (nx : ∀ S', RelW S' → V G M_law 0 35 (ZL b L xs) 35 rho0 1273 [some (.ref b), some (.ref (gB G + 0)), some (.ref (gB G + 22)), some (.int (nI i))] [] S') : V G M_law 0 35 (ZL b L xs) 35 rho0 805 [some (.ref b), some (.ref (gB G + 0)), some (.ref (gB G + 22)), some (.int (nI i))] [] S := by
  obtain ⟨v, S1, S2, r1, r2, hR⟩ := (o_lamp (G := G) : OPI G M_X8_lamp M_X9_lamp [.int (xs (nI (i + 1)).toNatClampNeg), .int (xs (nI (i + 2)).toNatClampNeg), .int (xs (nI (i + 3)).toNatClampNeg), .int (xs (nI (i + 4)).toNatClampNeg)]) S hS
  refine V_al1 d_law_805 ?_
  refine V_al0 d_law_806 ?_
  refine V_il3 d_law_807 ?_
  refine V_ki d_law_808 ?_
  refine V_iaddN d_law_809 ?_
  refine V_sld d_law_810 (by omega) hL ?_
  refine V_al0 d_law_811 ?_
  refine V_il3 d_law_812 ?_
  refine V_ki d_law_813 ?_
  refine V_iaddN d_law_814 ?_
  refine V_sld d_law_815 (by omega) hL ?_
  refine V_al0 d_law_816 ?_
  refine V_il3 d_law_817 ?_
  refine V_ki d_law_818 ?_
  refine V_iaddN d_law_819 ?_
  refine V_sld d_law_820 (by omega) hL ?_
  refine V_al0 d_law_821 ?_
  refine V_il3 d_law_822 ?_
  refine V_ki d_law_823 ?_
  refine V_iaddN d_law_824 ?_
  refine V_sld d_law_825 (by omega) hL ?_
  refine V_cv4 d_law_826 r1 rfl ⟨by decide, Nat.le_of_ble_eq_true rfl, Nat.zero_le _, Nat.le_refl _, Nat.le_refl _⟩ ?_
  refine V_al2 d_law_829 ?_
  refine V_al0 d_law_830 ?_
  refine V_il3 d_law_831 ?_
  refine V_ki d_law_832 ?_
  refine V_iaddN d_law_833 ?_
  refine V_sld d_law_834 (by omega) hL ?_
  refine V_al0 d_law_835 ?_
  refine V_il3 d_law_836 ?_
  refine V_ki d_law_837 ?_
  refine V_iaddN d_law_838 ?_
  refine V_sld d_law_839 (by omega) hL ?_
  refine V_al0 d_law_840 ?_
  refine V_il3 d_law_841 ?_
  refine V_ki d_law_842 ?_
  refine V_iaddN d_law_843 ?_
  refine V_sld d_law_844 (by omega) hL ?_
  refine V_al0 d_law_845 ?_
  refine V_il3 d_law_846 ?_
  refine V_ki d_law_847 ?_
  refine V_iaddN d_law_848 ?_
  refine V_sld d_law_849 (by omega) hL ?_
  refine V_cv4 d_law_850 r2 rfl ⟨by decide, Nat.le_of_ble_eq_true rfl, Nat.zero_le _, Nat.le_refl _, Nat.le_refl _⟩ ?_
  refine V_ic_eq d_law_853 (fun _ => ?_) (fun q => absurd rfl q)
  exact nx S2 hR
set_option maxRecDepth 100000 in
theorem lc_19 {G : Gm} {b L i : Nat} {xs : Nat → Int32} {S : AS} (hL : L ≤ 384) (hi : i + 6 ≤ L) (hS : RelW S) (nx : ∀ S', RelW S' → V G M_law 0 35 (ZL b L xs) 35 rho0 1273 [some (.ref b), some (.ref (gB G + 0)), some (.ref (gB G + 22)), some (.int (nI i))] [] S') : V G M_law 0 35 (ZL b L xs) 35 rho0 858 [some (.ref b), some (.ref (gB G + 0)), some (.ref (gB G + 22)), some (.int (nI i))] [] S := by
  obtain ⟨v, S1, S2, r1, r2, hR⟩ := (o_learn (G := G) : OPI G M_X8_learn M_X9_learn [.int (xs (nI (i + 1)).toNatClampNeg), .int (xs (nI (i + 2)).toNatClampNeg), .int (xs (nI (i + 3)).toNatClampNeg), .int (xs (nI (i + 4)).toNatClampNeg)]) S hS
  refine V_al1 d_law_858 ?_
  refine V_al0 d_law_859 ?_
  refine V_il3 d_law_860 ?_
  refine V_ki d_law_861 ?_
  refine V_iaddN d_law_862 ?_
  refine V_sld d_law_863 (by omega) hL ?_
  refine V_al0 d_law_864 ?_
  refine V_il3 d_law_865 ?_
  refine V_ki d_law_866 ?_
  refine V_iaddN d_law_867 ?_
  refine V_sld d_law_868 (by omega) hL ?_
  refine V_al0 d_law_869 ?_
  refine V_il3 d_law_870 ?_
  refine V_ki d_law_871 ?_
  refine V_iaddN d_law_872 ?_
  refine V_sld d_law_873 (by omega) hL ?_
  refine V_al0 d_law_874 ?_
  refine V_il3 d_law_875 ?_
  refine V_ki d_law_876 ?_
  refine V_iaddN d_law_877 ?_
  refine V_sld d_law_878 (by omega) hL ?_
  refine V_cv4 d_law_879 r1 rfl ⟨by decide, Nat.le_of_ble_eq_true rfl, Nat.zero_le _, Nat.le_refl _, Nat.le_refl _⟩ ?_
  refine V_al2 d_law_882 ?_
  refine V_al0 d_law_883 ?_
  refine V_il3 d_law_884 ?_
  refine V_ki d_law_885 ?_
  refine V_iaddN d_law_886 ?_
  refine V_sld d_law_887 (by omega) hL ?_
  refine V_al0 d_law_888 ?_
  refine V_il3 d_law_889 ?_
  refine V_ki d_law_890 ?_
  refine V_iaddN d_law_891 ?_
  refine V_sld d_law_892 (by omega) hL ?_
  refine V_al0 d_law_893 ?_
  refine V_il3 d_law_894 ?_
  refine V_ki d_law_895 ?_
  refine V_iaddN d_law_896 ?_
  refine V_sld d_law_897 (by omega) hL ?_
  refine V_al0 d_law_898 ?_
  refine V_il3 d_law_899 ?_
  refine V_ki d_law_900 ?_
  refine V_iaddN d_law_901 ?_
  refine V_sld d_law_902 (by omega) hL ?_
  refine V_cv4 d_law_903 r2 rfl ⟨by decide, Nat.le_of_ble_eq_true rfl, Nat.zero_le _, Nat.le_refl _, Nat.le_refl _⟩ ?_
  refine V_ic_eq d_law_906 (fun _ => ?_) (fun q => absurd rfl q)
  exact nx S2 hR
set_option maxRecDepth 100000 in
theorem lc_20 {G : Gm} {b L i : Nat} {xs : Nat → Int32} {S : AS} (hL : L ≤ 384) (hi : i + 6 ≤ L) (hS : RelW S) (nx : ∀ S', RelW S' → V G M_law 0 35 (ZL b L xs) 35 rho0 1273 [some (.ref b), some (.ref (gB G + 0)), some (.ref (gB G + 22)), some (.int (nI i))] [] S') : V G M_law 0 35 (ZL b L xs) 35 rho0 911 [some (.ref b), some (.ref (gB G + 0)), some (.ref (gB G + 22)), some (.int (nI i))] [] S := by
  obtain ⟨v, S1, S2, r1, r2, hR⟩ := (o_dice (G := G) : OPL G M_X8_dice M_X9_dice [.int (xs (nI (i + 1)).toNatClampNeg), .int (xs (nI (i + 2)).toNatClampNeg), .int (xs (nI (i + 3)).toNatClampNeg)]) S hS
  refine V_al1 d_law_911 ?_
  refine V_al0 d_law_912 ?_
  refine V_il3 d_law_913 ?_
  refine V_ki d_law_914 ?_
  refine V_iaddN d_law_915 ?_
  refine V_sld d_law_916 (by omega) hL ?_
  refine V_al0 d_law_917 ?_
  refine V_il3 d_law_918 ?_
  refine V_ki d_law_919 ?_
  refine V_iaddN d_law_920 ?_
  refine V_sld d_law_921 (by omega) hL ?_
  refine V_al0 d_law_922 ?_
  refine V_il3 d_law_923 ?_
  refine V_ki d_law_924 ?_
  refine V_iaddN d_law_925 ?_
  refine V_sld d_law_926 (by omega) hL ?_
  refine V_cv3 d_law_927 r1 rfl ⟨by decide, Nat.le_of_ble_eq_true rfl, Nat.zero_le _, Nat.le_refl _, Nat.le_refl _⟩ ?_
  refine V_al2 d_law_930 ?_
  refine V_al0 d_law_931 ?_
  refine V_il3 d_law_932 ?_
  refine V_ki d_law_933 ?_
  refine V_iaddN d_law_934 ?_
  refine V_sld d_law_935 (by omega) hL ?_
  refine V_al0 d_law_936 ?_
  refine V_il3 d_law_937 ?_
  refine V_ki d_law_938 ?_
  refine V_iaddN d_law_939 ?_
  refine V_sld d_law_940 (by omega) hL ?_
  refine V_al0 d_law_941 ?_
  refine V_il3 d_law_942 ?_
  refine V_ki d_law_943 ?_
  refine V_iaddN d_law_944 ?_
  refine V_sld d_law_945 (by omega) hL ?_
  refine V_cv3 d_law_946 r2 rfl ⟨by decide, Nat.le_of_ble_eq_true rfl, Nat.zero_le _, Nat.le_refl _, Nat.le_refl _⟩ ?_
  refine V_lcmp d_law_949 ?_
  refine V_if_eq d_law_950 (fun _ => ?_) (fun q => absurd ((lg_cmp_eq _ _).mpr rfl) q)
  exact nx S2 hR
set_option maxRecDepth 100000 in
theorem lc_21 {G : Gm} {b L i : Nat} {xs : Nat → Int32} {S : AS} (hL : L ≤ 384) (hi : i + 6 ≤ L) (hS : RelW S) (nx : ∀ S', RelW S' → V G M_law 0 35 (ZL b L xs) 35 rho0 1273 [some (.ref b), some (.ref (gB G + 0)), some (.ref (gB G + 22)), some (.int (nI i))] [] S') : V G M_law 0 35 (ZL b L xs) 35 rho0 955 [some (.ref b), some (.ref (gB G + 0)), some (.ref (gB G + 22)), some (.int (nI i))] [] S := by
  obtain ⟨v, S1, S2, r1, r2, hR⟩ := (o_seeds (G := G) : OPI G M_X8_seeds M_X9_seeds [.int (xs (nI (i + 1)).toNatClampNeg)]) S hS
  refine V_al1 d_law_955 ?_
  refine V_al0 d_law_956 ?_
  refine V_il3 d_law_957 ?_
  refine V_ki d_law_958 ?_
  refine V_iaddN d_law_959 ?_
  refine V_sld d_law_960 (by omega) hL ?_
  refine V_cv1 d_law_961 r1 rfl ⟨by decide, Nat.le_of_ble_eq_true rfl, Nat.zero_le _, Nat.le_refl _, Nat.le_refl _⟩ ?_
  refine V_al2 d_law_964 ?_
  refine V_al0 d_law_965 ?_
  refine V_il3 d_law_966 ?_
  refine V_ki d_law_967 ?_
  refine V_iaddN d_law_968 ?_
  refine V_sld d_law_969 (by omega) hL ?_
  refine V_cv1 d_law_970 r2 rfl ⟨by decide, Nat.le_of_ble_eq_true rfl, Nat.zero_le _, Nat.le_refl _, Nat.le_refl _⟩ ?_
  refine V_ic_eq d_law_973 (fun _ => ?_) (fun q => absurd rfl q)
  exact nx S2 hR
set_option maxRecDepth 100000 in
theorem lc_22 {G : Gm} {b L i : Nat} {xs : Nat → Int32} {S : AS} (hL : L ≤ 384) (hi : i + 6 ≤ L) (hS : RelW S) (nx : ∀ S', RelW S' → V G M_law 0 35 (ZL b L xs) 35 rho0 1273 [some (.ref b), some (.ref (gB G + 0)), some (.ref (gB G + 22)), some (.int (nI i))] [] S') : V G M_law 0 35 (ZL b L xs) 35 rho0 978 [some (.ref b), some (.ref (gB G + 0)), some (.ref (gB G + 22)), some (.int (nI i))] [] S := by
  obtain ⟨v, S1, S2, r1, r2, hR⟩ := (o_sheet (G := G) : OPI G M_X8_sheet M_X9_sheet [.int (xs (nI (i + 1)).toNatClampNeg), .int (xs (nI (i + 2)).toNatClampNeg), .int (xs (nI (i + 3)).toNatClampNeg)]) S hS
  refine V_al1 d_law_978 ?_
  refine V_al0 d_law_979 ?_
  refine V_il3 d_law_980 ?_
  refine V_ki d_law_981 ?_
  refine V_iaddN d_law_982 ?_
  refine V_sld d_law_983 (by omega) hL ?_
  refine V_al0 d_law_984 ?_
  refine V_il3 d_law_985 ?_
  refine V_ki d_law_986 ?_
  refine V_iaddN d_law_987 ?_
  refine V_sld d_law_988 (by omega) hL ?_
  refine V_al0 d_law_989 ?_
  refine V_il3 d_law_990 ?_
  refine V_ki d_law_991 ?_
  refine V_iaddN d_law_992 ?_
  refine V_sld d_law_993 (by omega) hL ?_
  refine V_cv3 d_law_994 r1 rfl ⟨by decide, Nat.le_of_ble_eq_true rfl, Nat.zero_le _, Nat.le_refl _, Nat.le_refl _⟩ ?_
  refine V_al2 d_law_997 ?_
  refine V_al0 d_law_998 ?_
  refine V_il3 d_law_999 ?_
  refine V_ki d_law_1000 ?_
  refine V_iaddN d_law_1001 ?_
  refine V_sld d_law_1002 (by omega) hL ?_
  refine V_al0 d_law_1003 ?_
  refine V_il3 d_law_1004 ?_
  refine V_ki d_law_1005 ?_
  refine V_iaddN d_law_1006 ?_
  refine V_sld d_law_1007 (by omega) hL ?_
  refine V_al0 d_law_1008 ?_
  refine V_il3 d_law_1009 ?_
  refine V_ki d_law_1010 ?_
  refine V_iaddN d_law_1011 ?_
  refine V_sld d_law_1012 (by omega) hL ?_
  refine V_cv3 d_law_1013 r2 rfl ⟨by decide, Nat.le_of_ble_eq_true rfl, Nat.zero_le _, Nat.le_refl _, Nat.le_refl _⟩ ?_
  refine V_ic_eq d_law_1016 (fun _ => ?_) (fun q => absurd rfl q)
  exact nx S2 hR
set_option maxRecDepth 100000 in
theorem lc_23 {G : Gm} {b L i : Nat} {xs : Nat → Int32} {S : AS} (hL : L ≤ 384) (hi : i + 6 ≤ L) (hS : RelW S) (nx : ∀ S', RelW S' → V G M_law 0 35 (ZL b L xs) 35 rho0 1273 [some (.ref b), some (.ref (gB G + 0)), some (.ref (gB G + 22)), some (.int (nI i))] [] S') : V G M_law 0 35 (ZL b L xs) 35 rho0 1021 [some (.ref b), some (.ref (gB G + 0)), some (.ref (gB G + 22)), some (.int (nI i))] [] S := by
  obtain ⟨v, S1, S2, r1, r2, hR⟩ := (o_lose (G := G) : OPI G M_X8_lose M_X9_lose [.int (xs (nI (i + 1)).toNatClampNeg)]) S hS
  refine V_al1 d_law_1021 ?_
  refine V_al0 d_law_1022 ?_
  refine V_il3 d_law_1023 ?_
  refine V_ki d_law_1024 ?_
  refine V_iaddN d_law_1025 ?_
  refine V_sld d_law_1026 (by omega) hL ?_
  refine V_cv1 d_law_1027 r1 rfl ⟨by decide, Nat.le_of_ble_eq_true rfl, Nat.zero_le _, Nat.le_refl _, Nat.le_refl _⟩ ?_
  refine V_al2 d_law_1030 ?_
  refine V_al0 d_law_1031 ?_
  refine V_il3 d_law_1032 ?_
  refine V_ki d_law_1033 ?_
  refine V_iaddN d_law_1034 ?_
  refine V_sld d_law_1035 (by omega) hL ?_
  refine V_cv1 d_law_1036 r2 rfl ⟨by decide, Nat.le_of_ble_eq_true rfl, Nat.zero_le _, Nat.le_refl _, Nat.le_refl _⟩ ?_
  refine V_ic_eq d_law_1039 (fun _ => ?_) (fun q => absurd rfl q)
  exact nx S2 hR
set_option maxRecDepth 100000 in
theorem lc_24 {G : Gm} {b L i : Nat} {xs : Nat → Int32} {S : AS} (hL : L ≤ 384) (hi : i + 6 ≤ L) (hS : RelW S) (nx : ∀ S', RelW S' → V G M_law 0 35 (ZL b L xs) 35 rho0 1273 [some (.ref b), some (.ref (gB G + 0)), some (.ref (gB G + 22)), some (.int (nI i))] [] S') : V G M_law 0 35 (ZL b L xs) 35 rho0 1044 [some (.ref b), some (.ref (gB G + 0)), some (.ref (gB G + 22)), some (.int (nI i))] [] S := by
  obtain ⟨v, S1, S2, r1, r2, hR⟩ := (o_put (G := G) : OPI G M_X8_put M_X9_put [.int (xs (nI (i + 1)).toNatClampNeg), .int (xs (nI (i + 2)).toNatClampNeg), .int (xs (nI (i + 3)).toNatClampNeg), .int (xs (nI (i + 4)).toNatClampNeg)]) S hS
  refine V_al1 d_law_1044 ?_
  refine V_al0 d_law_1045 ?_
  refine V_il3 d_law_1046 ?_
  refine V_ki d_law_1047 ?_
  refine V_iaddN d_law_1048 ?_
  refine V_sld d_law_1049 (by omega) hL ?_
  refine V_al0 d_law_1050 ?_
  refine V_il3 d_law_1051 ?_
  refine V_ki d_law_1052 ?_
  refine V_iaddN d_law_1053 ?_
  refine V_sld d_law_1054 (by omega) hL ?_
  refine V_al0 d_law_1055 ?_
  refine V_il3 d_law_1056 ?_
  refine V_ki d_law_1057 ?_
  refine V_iaddN d_law_1058 ?_
  refine V_sld d_law_1059 (by omega) hL ?_
  refine V_al0 d_law_1060 ?_
  refine V_il3 d_law_1061 ?_
  refine V_ki d_law_1062 ?_
  refine V_iaddN d_law_1063 ?_
  refine V_sld d_law_1064 (by omega) hL ?_
  refine V_cv4 d_law_1065 r1 rfl ⟨by decide, Nat.le_of_ble_eq_true rfl, Nat.zero_le _, Nat.le_refl _, Nat.le_refl _⟩ ?_
  refine V_al2 d_law_1068 ?_
  refine V_al0 d_law_1069 ?_
  refine V_il3 d_law_1070 ?_
  refine V_ki d_law_1071 ?_
  refine V_iaddN d_law_1072 ?_
  refine V_sld d_law_1073 (by omega) hL ?_
  refine V_al0 d_law_1074 ?_
  refine V_il3 d_law_1075 ?_
  refine V_ki d_law_1076 ?_
  refine V_iaddN d_law_1077 ?_
  refine V_sld d_law_1078 (by omega) hL ?_
  refine V_al0 d_law_1079 ?_
  refine V_il3 d_law_1080 ?_
  refine V_ki d_law_1081 ?_
  refine V_iaddN d_law_1082 ?_
  refine V_sld d_law_1083 (by omega) hL ?_
  refine V_al0 d_law_1084 ?_
  refine V_il3 d_law_1085 ?_
  refine V_ki d_law_1086 ?_
  refine V_iaddN d_law_1087 ?_
  refine V_sld d_law_1088 (by omega) hL ?_
  refine V_cv4 d_law_1089 r2 rfl ⟨by decide, Nat.le_of_ble_eq_true rfl, Nat.zero_le _, Nat.le_refl _, Nat.le_refl _⟩ ?_
  refine V_ic_eq d_law_1092 (fun _ => ?_) (fun q => absurd rfl q)
  exact nx S2 hR
set_option maxRecDepth 100000 in
theorem lc_25 {G : Gm} {b L i : Nat} {xs : Nat → Int32} {S : AS} (hL : L ≤ 384) (hi : i + 6 ≤ L) (hS : RelW S) (nx : ∀ S', RelW S' → V G M_law 0 35 (ZL b L xs) 35 rho0 1273 [some (.ref b), some (.ref (gB G + 0)), some (.ref (gB G + 22)), some (.int (nI i))] [] S') : V G M_law 0 35 (ZL b L xs) 35 rho0 1097 [some (.ref b), some (.ref (gB G + 0)), some (.ref (gB G + 22)), some (.int (nI i))] [] S := by
  obtain ⟨v, S1, S2, r1, r2, hR⟩ := (o_get (G := G) : OPI G M_X8_get M_X9_get [.int (xs (nI (i + 1)).toNatClampNeg), .int (xs (nI (i + 2)).toNatClampNeg), .int (xs (nI (i + 3)).toNatClampNeg)]) S hS
  refine V_al1 d_law_1097 ?_
  refine V_al0 d_law_1098 ?_
  refine V_il3 d_law_1099 ?_
  refine V_ki d_law_1100 ?_
  refine V_iaddN d_law_1101 ?_
  refine V_sld d_law_1102 (by omega) hL ?_
  refine V_al0 d_law_1103 ?_
  refine V_il3 d_law_1104 ?_
  refine V_ki d_law_1105 ?_
  refine V_iaddN d_law_1106 ?_
  refine V_sld d_law_1107 (by omega) hL ?_
  refine V_al0 d_law_1108 ?_
  refine V_il3 d_law_1109 ?_
  refine V_ki d_law_1110 ?_
  refine V_iaddN d_law_1111 ?_
  refine V_sld d_law_1112 (by omega) hL ?_
  refine V_cv3 d_law_1113 r1 rfl ⟨by decide, Nat.le_of_ble_eq_true rfl, Nat.zero_le _, Nat.le_refl _, Nat.le_refl _⟩ ?_
  refine V_al2 d_law_1116 ?_
  refine V_al0 d_law_1117 ?_
  refine V_il3 d_law_1118 ?_
  refine V_ki d_law_1119 ?_
  refine V_iaddN d_law_1120 ?_
  refine V_sld d_law_1121 (by omega) hL ?_
  refine V_al0 d_law_1122 ?_
  refine V_il3 d_law_1123 ?_
  refine V_ki d_law_1124 ?_
  refine V_iaddN d_law_1125 ?_
  refine V_sld d_law_1126 (by omega) hL ?_
  refine V_al0 d_law_1127 ?_
  refine V_il3 d_law_1128 ?_
  refine V_ki d_law_1129 ?_
  refine V_iaddN d_law_1130 ?_
  refine V_sld d_law_1131 (by omega) hL ?_
  refine V_cv3 d_law_1132 r2 rfl ⟨by decide, Nat.le_of_ble_eq_true rfl, Nat.zero_le _, Nat.le_refl _, Nat.le_refl _⟩ ?_
  refine V_ic_eq d_law_1135 (fun _ => ?_) (fun q => absurd rfl q)
  exact nx S2 hR
set_option maxRecDepth 100000 in
theorem lc_26 {G : Gm} {b L i : Nat} {xs : Nat → Int32} {S : AS} (hL : L ≤ 384) (hi : i + 6 ≤ L) (hS : RelW S) (nx : ∀ S', RelW S' → V G M_law 0 35 (ZL b L xs) 35 rho0 1273 [some (.ref b), some (.ref (gB G + 0)), some (.ref (gB G + 22)), some (.int (nI i))] [] S') : V G M_law 0 35 (ZL b L xs) 35 rho0 1140 [some (.ref b), some (.ref (gB G + 0)), some (.ref (gB G + 22)), some (.int (nI i))] [] S := by
  obtain ⟨v, S1, S2, r1, r2, hR⟩ := (o_copy (G := G) : OPI G M_X8_copy M_X9_copy [.int (xs (nI (i + 1)).toNatClampNeg), .int (xs (nI (i + 2)).toNatClampNeg), .int (xs (nI (i + 3)).toNatClampNeg), .int (xs (nI (i + 4)).toNatClampNeg), .int (xs (nI (i + 5)).toNatClampNeg)]) S hS
  refine V_al1 d_law_1140 ?_
  refine V_al0 d_law_1141 ?_
  refine V_il3 d_law_1142 ?_
  refine V_ki d_law_1143 ?_
  refine V_iaddN d_law_1144 ?_
  refine V_sld d_law_1145 (by omega) hL ?_
  refine V_al0 d_law_1146 ?_
  refine V_il3 d_law_1147 ?_
  refine V_ki d_law_1148 ?_
  refine V_iaddN d_law_1149 ?_
  refine V_sld d_law_1150 (by omega) hL ?_
  refine V_al0 d_law_1151 ?_
  refine V_il3 d_law_1152 ?_
  refine V_ki d_law_1153 ?_
  refine V_iaddN d_law_1154 ?_
  refine V_sld d_law_1155 (by omega) hL ?_
  refine V_al0 d_law_1156 ?_
  refine V_il3 d_law_1157 ?_
  refine V_ki d_law_1158 ?_
  refine V_iaddN d_law_1159 ?_
  refine V_sld d_law_1160 (by omega) hL ?_
  refine V_al0 d_law_1161 ?_
  refine V_il3 d_law_1162 ?_
  refine V_ki d_law_1163 ?_
  refine V_iaddN d_law_1164 ?_
  refine V_sld d_law_1165 (by omega) hL ?_
  refine V_cv5 d_law_1166 r1 rfl ⟨by decide, Nat.le_of_ble_eq_true rfl, Nat.zero_le _, Nat.le_refl _, Nat.le_refl _⟩ ?_
  refine V_al2 d_law_1169 ?_
  refine V_al0 d_law_1170 ?_
  refine V_il3 d_law_1171 ?_
  refine V_ki d_law_1172 ?_
  refine V_iaddN d_law_1173 ?_
  refine V_sld d_law_1174 (by omega) hL ?_
  refine V_al0 d_law_1175 ?_
  refine V_il3 d_law_1176 ?_
  refine V_ki d_law_1177 ?_
  refine V_iaddN d_law_1178 ?_
  refine V_sld d_law_1179 (by omega) hL ?_
  refine V_al0 d_law_1180 ?_
  refine V_il3 d_law_1181 ?_
  refine V_ki d_law_1182 ?_
  refine V_iaddN d_law_1183 ?_
  refine V_sld d_law_1184 (by omega) hL ?_
  refine V_al0 d_law_1185 ?_
  refine V_il3 d_law_1186 ?_
  refine V_ki d_law_1187 ?_
  refine V_iaddN d_law_1188 ?_
  refine V_sld d_law_1189 (by omega) hL ?_
  refine V_al0 d_law_1190 ?_
  refine V_il3 d_law_1191 ?_
  refine V_ki d_law_1192 ?_
  refine V_iaddN d_law_1193 ?_
  refine V_sld d_law_1194 (by omega) hL ?_
  refine V_cv5 d_law_1195 r2 rfl ⟨by decide, Nat.le_of_ble_eq_true rfl, Nat.zero_le _, Nat.le_refl _, Nat.le_refl _⟩ ?_
  refine V_ic_eq d_law_1198 (fun _ => ?_) (fun q => absurd rfl q)
  exact nx S2 hR
set_option maxRecDepth 100000 in
theorem lc_27 {G : Gm} {b L i : Nat} {xs : Nat → Int32} {S : AS} (hL : L ≤ 384) (hi : i + 6 ≤ L) (hS : RelW S) (nx : ∀ S', RelW S' → V G M_law 0 35 (ZL b L xs) 35 rho0 1273 [some (.ref b), some (.ref (gB G + 0)), some (.ref (gB G + 22)), some (.int (nI i))] [] S') : V G M_law 0 35 (ZL b L xs) 35 rho0 1203 [some (.ref b), some (.ref (gB G + 0)), some (.ref (gB G + 22)), some (.int (nI i))] [] S := by
  obtain ⟨v, S1, S2, r1, r2, hR⟩ := (o_write (G := G) : OPI G M_X8_write M_X9_write [.int (xs (nI (i + 1)).toNatClampNeg), .int (xs (nI (i + 2)).toNatClampNeg)]) S hS
  refine V_al1 d_law_1203 ?_
  refine V_al0 d_law_1204 ?_
  refine V_il3 d_law_1205 ?_
  refine V_ki d_law_1206 ?_
  refine V_iaddN d_law_1207 ?_
  refine V_sld d_law_1208 (by omega) hL ?_
  refine V_al0 d_law_1209 ?_
  refine V_il3 d_law_1210 ?_
  refine V_ki d_law_1211 ?_
  refine V_iaddN d_law_1212 ?_
  refine V_sld d_law_1213 (by omega) hL ?_
  refine V_cv2 d_law_1214 r1 rfl ⟨by decide, Nat.le_of_ble_eq_true rfl, Nat.zero_le _, Nat.le_refl _, Nat.le_refl _⟩ ?_
  refine V_al2 d_law_1217 ?_
  refine V_al0 d_law_1218 ?_
  refine V_il3 d_law_1219 ?_
  refine V_ki d_law_1220 ?_
  refine V_iaddN d_law_1221 ?_
  refine V_sld d_law_1222 (by omega) hL ?_
  refine V_al0 d_law_1223 ?_
  refine V_il3 d_law_1224 ?_
  refine V_ki d_law_1225 ?_
  refine V_iaddN d_law_1226 ?_
  refine V_sld d_law_1227 (by omega) hL ?_
  refine V_cv2 d_law_1228 r2 rfl ⟨by decide, Nat.le_of_ble_eq_true rfl, Nat.zero_le _, Nat.le_refl _, Nat.le_refl _⟩ ?_
  refine V_ic_eq d_law_1231 (fun _ => ?_) (fun q => absurd rfl q)
  exact nx S2 hR
set_option maxRecDepth 100000 in
theorem lc_28 {G : Gm} {b L i : Nat} {xs : Nat → Int32} {S : AS} (hL : L ≤ 384) (hi : i + 6 ≤ L) (hS : RelW S) (nx : ∀ S', RelW S' → V G M_law 0 35 (ZL b L xs) 35 rho0 1273 [some (.ref b), some (.ref (gB G + 0)), some (.ref (gB G + 22)), some (.int (nI i))] [] S') : V G M_law 0 35 (ZL b L xs) 35 rho0 1236 [some (.ref b), some (.ref (gB G + 0)), some (.ref (gB G + 22)), some (.int (nI i))] [] S := by
  obtain ⟨v, S1, S2, r1, r2, hR⟩ := (o_count (G := G) : OPI G M_X8_count M_X9_count [.int (xs (nI (i + 1)).toNatClampNeg)]) S hS
  refine V_al1 d_law_1236 ?_
  refine V_al0 d_law_1237 ?_
  refine V_il3 d_law_1238 ?_
  refine V_ki d_law_1239 ?_
  refine V_iaddN d_law_1240 ?_
  refine V_sld d_law_1241 (by omega) hL ?_
  refine V_cv1 d_law_1242 r1 rfl ⟨by decide, Nat.le_of_ble_eq_true rfl, Nat.zero_le _, Nat.le_refl _, Nat.le_refl _⟩ ?_
  refine V_al2 d_law_1245 ?_
  refine V_al0 d_law_1246 ?_
  refine V_il3 d_law_1247 ?_
  refine V_ki d_law_1248 ?_
  refine V_iaddN d_law_1249 ?_
  refine V_sld d_law_1250 (by omega) hL ?_
  refine V_cv1 d_law_1251 r2 rfl ⟨by decide, Nat.le_of_ble_eq_true rfl, Nat.zero_le _, Nat.le_refl _, Nat.le_refl _⟩ ?_
  refine V_ic_eq d_law_1254 (fun _ => ?_) (fun q => absurd rfl q)
  exact nx S2 hR
set_option maxRecDepth 100000 in
theorem lc_29 {G : Gm} {b L i : Nat} {xs : Nat → Int32} {S : AS} (hL : L ≤ 384) (hi : i + 6 ≤ L) (hS : RelW S) (nx : ∀ S', RelW S' → V G M_law 0 35 (ZL b L xs) 35 rho0 1273 [some (.ref b), some (.ref (gB G + 0)), some (.ref (gB G + 22)), some (.int (nI i))] [] S') : V G M_law 0 35 (ZL b L xs) 35 rho0 1259 [some (.ref b), some (.ref (gB G + 0)), some (.ref (gB G + 22)), some (.int (nI i))] [] S := by
  obtain ⟨v, S1, S2, r1, r2, hR⟩ := (o_digest (G := G) : OPL G M_X8_digest M_X9_digest []) S hS
  refine V_al1 d_law_1259 ?_
  refine V_cv0 d_law_1260 r1 rfl ⟨by decide, Nat.le_of_ble_eq_true rfl, Nat.zero_le _, Nat.le_refl _, Nat.le_refl _⟩ ?_
  refine V_al2 d_law_1263 ?_
  refine V_cv0 d_law_1264 r2 rfl ⟨by decide, Nat.le_of_ble_eq_true rfl, Nat.zero_le _, Nat.le_refl _, Nat.le_refl _⟩ ?_
  refine V_lcmp d_law_1267 ?_
  refine V_if_eq d_law_1268 (fun _ => ?_) (fun q => absurd ((lg_cmp_eq _ _).mpr rfl) q)
  exact nx S2 hR
set_option maxRecDepth 100000 in
theorem law_step {G : Gm} {b L i : Nat} {xs : Nat → Int32} {S : AS} (hL : L ≤ 384) (hi : i + 6 ≤ L) (hS : RelW S) (nx : ∀ S', RelW S' → V G M_law 0 35 (ZL b L xs) 35 rho0 1273 [some (.ref b), some (.ref (gB G + 0)), some (.ref (gB G + 22)), some (.int (nI i))] [] S') : V G M_law 0 35 (ZL b L xs) 35 rho0 27 [some (.ref b), some (.ref (gB G + 0)), some (.ref (gB G + 22)), some (.int (nI i))] [] S := by
  obtain ⟨r, hr, er⟩ := and31 (xs (nI i).toNatClampNeg)
  refine V_al0 d_law_27 ?_
  refine V_il3 d_law_28 ?_
  refine V_sld d_law_29 (by omega) hL ?_
  refine V_ki d_law_30 ?_
  refine V_iand d_law_32 ?_
  refine V_topi er ?_
  rcases (show r = 0 ∨ r = 1 ∨ r = 2 ∨ r = 3 ∨ r = 4 ∨ r = 5 ∨ r = 6 ∨ r = 7 ∨ r = 8 ∨ r = 9 ∨ r = 10 ∨ r = 11 ∨ r = 12 ∨ r = 13 ∨ r = 14 ∨ r = 15 ∨ r = 16 ∨ r = 17 ∨ r = 18 ∨ r = 19 ∨ r = 20 ∨ r = 21 ∨ r = 22 ∨ r = 23 ∨ r = 24 ∨ r = 25 ∨ r = 26 ∨ r = 27 ∨ r = 28 ∨ r = 29 ∨ r = 30 ∨ r = 31 by omega) with rfl | rfl | rfl | rfl | rfl | rfl | rfl | rfl | rfl | rfl | rfl | rfl | rfl | rfl | rfl | rfl | rfl | rfl | rfl | rfl | rfl | rfl | rfl | rfl | rfl | rfl | rfl | rfl | rfl | rfl | rfl | rfl
  · refine V_tabI (off := 135) (tgt := 168) d_law_33 (by decide) (by decide) (by decide) (by decide) ?_
    exact lc_0 hL hi hS nx
  · refine V_tabI (off := 158) (tgt := 191) d_law_33 (by decide) (by decide) (by decide) (by decide) ?_
    exact lc_1 hL hi hS nx
  · refine V_tabI (off := 171) (tgt := 204) d_law_33 (by decide) (by decide) (by decide) (by decide) ?_
    exact lc_2 hL hi hS nx
  · refine V_tabI (off := 184) (tgt := 217) d_law_33 (by decide) (by decide) (by decide) (by decide) ?_
    exact lc_3 hL hi hS nx
  · refine V_tabI (off := 217) (tgt := 250) d_law_33 (by decide) (by decide) (by decide) (by decide) ?_
    exact lc_4 hL hi hS nx
  · refine V_tabI (off := 260) (tgt := 293) d_law_33 (by decide) (by decide) (by decide) (by decide) ?_
    exact lc_5 hL hi hS nx
  · refine V_tabI (off := 293) (tgt := 326) d_law_33 (by decide) (by decide) (by decide) (by decide) ?_
    exact lc_6 hL hi hS nx
  · refine V_tabI (off := 316) (tgt := 349) d_law_33 (by decide) (by decide) (by decide) (by decide) ?_
    exact lc_7 hL hi hS nx
  · refine V_tabI (off := 349) (tgt := 382) d_law_33 (by decide) (by decide) (by decide) (by decide) ?_
    exact lc_8 hL hi hS nx
  · refine V_tabI (off := 382) (tgt := 415) d_law_33 (by decide) (by decide) (by decide) (by decide) ?_
    exact lc_9 hL hi hS nx
  · refine V_tabI (off := 415) (tgt := 448) d_law_33 (by decide) (by decide) (by decide) (by decide) ?_
    exact lc_10 hL hi hS nx
  · refine V_tabI (off := 458) (tgt := 491) d_law_33 (by decide) (by decide) (by decide) (by decide) ?_
    exact lc_11 hL hi hS nx
  · refine V_tabI (off := 501) (tgt := 534) d_law_33 (by decide) (by decide) (by decide) (by decide) ?_
    exact lc_12 hL hi hS nx
  · refine V_tabI (off := 555) (tgt := 588) d_law_33 (by decide) (by decide) (by decide) (by decide) ?_
    exact lc_13 hL hi hS nx
  · refine V_tabI (off := 589) (tgt := 622) d_law_33 (by decide) (by decide) (by decide) (by decide) ?_
    exact lc_14 hL hi hS nx
  · refine V_tabI (off := 612) (tgt := 645) d_law_33 (by decide) (by decide) (by decide) (by decide) ?_
    exact lc_15 hL hi hS nx
  · refine V_tabI (off := 665) (tgt := 698) d_law_33 (by decide) (by decide) (by decide) (by decide) ?_
    exact lc_16 hL hi hS nx
  · refine V_tabI (off := 728) (tgt := 761) d_law_33 (by decide) (by decide) (by decide) (by decide) ?_
    exact lc_17 hL hi hS nx
  · refine V_tabI (off := 772) (tgt := 805) d_law_33 (by decide) (by decide) (by decide) (by decide) ?_
    exact lc_18 hL hi hS nx
  · refine V_tabI (off := 825) (tgt := 858) d_law_33 (by decide) (by decide) (by decide) (by decide) ?_
    exact lc_19 hL hi hS nx
  · refine V_tabI (off := 878) (tgt := 911) d_law_33 (by decide) (by decide) (by decide) (by decide) ?_
    exact lc_20 hL hi hS nx
  · refine V_tabI (off := 922) (tgt := 955) d_law_33 (by decide) (by decide) (by decide) (by decide) ?_
    exact lc_21 hL hi hS nx
  · refine V_tabI (off := 945) (tgt := 978) d_law_33 (by decide) (by decide) (by decide) (by decide) ?_
    exact lc_22 hL hi hS nx
  · refine V_tabI (off := 988) (tgt := 1021) d_law_33 (by decide) (by decide) (by decide) (by decide) ?_
    exact lc_23 hL hi hS nx
  · refine V_tabI (off := 1011) (tgt := 1044) d_law_33 (by decide) (by decide) (by decide) (by decide) ?_
    exact lc_24 hL hi hS nx
  · refine V_tabI (off := 1064) (tgt := 1097) d_law_33 (by decide) (by decide) (by decide) (by decide) ?_
    exact lc_25 hL hi hS nx
  · refine V_tabI (off := 1107) (tgt := 1140) d_law_33 (by decide) (by decide) (by decide) (by decide) ?_
    exact lc_26 hL hi hS nx
  · refine V_tabI (off := 1170) (tgt := 1203) d_law_33 (by decide) (by decide) (by decide) (by decide) ?_
    exact lc_27 hL hi hS nx
  · refine V_tabI (off := 1203) (tgt := 1236) d_law_33 (by decide) (by decide) (by decide) (by decide) ?_
    exact lc_28 hL hi hS nx
  · refine V_tabI (off := 1226) (tgt := 1259) d_law_33 (by decide) (by decide) (by decide) (by decide) ?_
    exact lc_29 hL hi hS nx
  · refine V_tabO d_law_33 (by decide) ?_
    exact nx S hS
  · refine V_tabO d_law_33 (by decide) ?_
    exact nx S hS
set_option maxRecDepth 100000 in
theorem law_loop {G : Gm} {b L : Nat} {xs : Nat → Int32} (hL : L ≤ 384) : ∀ (d i : Nat) (S : AS), L ≤ i + 6 * d + 5 → i ≤ 1000 + L → RelW S → V G M_law 0 35 (ZL b L xs) 35 rho0 18 [some (.ref b), some (.ref (gB G + 0)), some (.ref (gB G + 22)), some (.int (nI i))] [] S := by
  intro d
  have head : ∀ (i : Nat) (S : AS), i < 2 ^ 30 → (L < i + 6 → V G M_law 0 35 (ZL b L xs) 35 rho0 1279 [some (.ref b), some (.ref (gB G + 0)), some (.ref (gB G + 22)), some (.int (nI i))] [] S) → (i + 6 ≤ L → V G M_law 0 35 (ZL b L xs) 35 rho0 27 [some (.ref b), some (.ref (gB G + 0)), some (.ref (gB G + 22)), some (.int (nI i))] [] S) → V G M_law 0 35 (ZL b L xs) 35 rho0 18 [some (.ref b), some (.ref (gB G + 0)), some (.ref (gB G + 22)), some (.int (nI i))] [] S := by
    intro i S hi k1 k2
    refine V_il3 d_law_18 ?_
    refine V_al0 d_law_19 ?_
    refine V_slen d_law_20 ?_
    refine V_ki d_law_21 ?_
    refine V_isub d_law_23 ?_
    exact V_ic_gt d_law_24 (fun q => k1 ((gt6 hi (by omega)).mp q)) (fun q => k2 (Nat.le_of_not_lt (fun z => q ((gt6 hi (by omega)).mpr z))))
  have fin : ∀ (i : Nat) (S : AS), V G M_law 0 35 (ZL b L xs) 35 rho0 1279 [some (.ref b), some (.ref (gB G + 0)), some (.ref (gB G + 22)), some (.int (nI i))] [] S := by
    intro i S
    refine V_ki d_law_1279 ?_
    exact V_lawret d_law_1280
  induction d with
  | zero =>
    intro i S h1 h2 hS
    exact head i S (by omega) (fun _ => fin i S) (fun q => absurd q (by omega))
  | succ d ih =>
    intro i S h1 h2 hS
    refine head i S (by omega) (fun _ => fin i S) (fun q => ?_)
    refine law_step hL q hS (fun S' hS' => ?_)
    refine V_ic3 (v := nI (i + 6)) d_law_1273 rfl (by rw [show Int32.ofInt 6 = nI 6 by decide]; exact nI_add i 6) ?_
    refine V_goto d_law_1276 ?_
    exact ih (i + 6) S' (by omega) (by omega) hS'
