/-! what holds between two calls -/
def SHv (S : AS) : Prop := ∀ s, s < 4 → (S.1 18 s = -1 ∧ S.1 30 s = nI 0) ∨ ∃ f z, f ≤ 2 ∧ z ≤ 48 ∧ S.1 18 s = nI f ∧ S.1 31 s = nI f ∧ S.1 30 s = nI 1 ∧ S.1 19 s = nI z ∧ S.1 32 s = nI z ∧ ∀ i, i < z → S.1 33 (48 * s + i) = S.1 20 (s * 48 + i) ∧ nrI f (S.1 20 (s * 48 + i)) = S.1 20 (s * 48 + i)
def ST (S : AS) (b : Nat → Nat) (sz : Nat) (ft : Int32) (N : List (List Nat)) (w wy : Nat → Nat) (lk nd : Nat) : Prop := (S.1 4 3 = nI sz ∧ ∀ i, i < sz → S.1 5 i = nI (b i)) ∧ CNv S ft N ∧ MTv S b sz ∧ HVc S w wy lk nd ∧ HVm S w wy lk nd ∧ SHv S ∧ S.1 17 4 = S.1 22 17
def PQ (a b : Nat) : Bool := a == 10 || a == 11 || a == 13 || a == 21 || a == 34 || PX a b
theorem PQ_X {S S1 : AS} (h : Ag PX S S1) : Ag PQ S S1 := h.mono (fun a b q => by
  unfold PQ at q
  simp only [Bool.or_eq_false_iff] at q
  exact q.2)
theorem PQ_M {S S1 : AS} (h : Ag PM S S1) : Ag PQ S S1 := PQ_X (PX_M h)
theorem PQ_10 {S S1 : AS} (h : Ag P10 S S1) : Ag PQ S S1 := h.mono (fun a b q => by
  unfold PQ at q
  simp only [Bool.or_eq_false_iff] at q
  exact q.1.1.1.1.1)
theorem PQ_11 {S S1 : AS} (h : Ag P11 S S1) : Ag PQ S S1 := h.mono (fun a b q => by
  unfold PQ at q
  simp only [Bool.or_eq_false_iff] at q
  show (a == 10 || a == 11) = false
  rw [q.1.1.1.1.1, q.1.1.1.1.2]; rfl)
theorem PQ_13a {S S1 : AS} (h : Ag P13a S S1) : Ag PQ S S1 := h.mono (fun a b q => by
  unfold PQ at q
  simp only [Bool.or_eq_false_iff] at q
  exact q.1.1.1.2)
theorem PQ_13 {S S1 : AS} (h : Ag P13 S S1) : Ag PQ S S1 := PQ_13a (P13_a h)
theorem SHv.ag {P : Nat → Nat → Bool} {S S' : AS} (h : Ag P S S') (hv : SHv S) (h1 : ∀ i, P 18 i = false) (h2 : ∀ i, P 19 i = false) (h3 : ∀ i, P 20 i = false) (h4 : ∀ i, P 30 i = false) (h5 : ∀ i, P 31 i = false) (h6 : ∀ i, P 32 i = false) (h7 : ∀ i, P 33 i = false) : SHv S' := by
  intro s hs
  rw [h.2 18 s (h1 s), h.2 19 s (h2 s), h.2 30 s (h4 s), h.2 31 s (h5 s), h.2 32 s (h6 s)]
  rcases hv s hs with g | ⟨f, z, g1, g2, g3, g4, g5, g6, g7, g8⟩
  · exact Or.inl g
  · refine Or.inr ⟨f, z, g1, g2, g3, g4, g5, g6, g7, fun i hi => ?_⟩
    rw [h.2 33 _ (h7 _), h.2 20 _ (h3 _)]
    exact g8 i hi
theorem ST.ag {S S' : AS} {b : Nat → Nat} {sz : Nat} {ft : Int32} {N : List (List Nat)} {w wy : Nat → Nat} {lk nd : Nat} (h : Ag PQ S S') (hs : ST S b sz ft N w wy lk nd) : ST S' b sz ft N w wy lk nd := by
  obtain ⟨⟨hsz, hbs⟩, hcn, hmt, hhc, hhm, hsh, hfd⟩ := hs
  exact ⟨⟨(h.2 4 3 rfl).trans hsz, fun i hi => (h.2 5 i rfl).trans (hbs i hi)⟩, hcn.ag h (fun _ => rfl) (fun _ => rfl) (fun _ => rfl), hmt.ag h rfl (fun _ => rfl), hhc.ag h (fun _ => rfl) (fun _ => rfl) (fun _ => rfl), hhm.ag h (fun _ => rfl) (fun _ => rfl) rfl rfl, hsh.ag h (fun _ => rfl) (fun _ => rfl) (fun _ => rfl) (fun _ => rfl) (fun _ => rfl) (fun _ => rfl) (fun _ => rfl), by rw [h.2 17 4 rfl, h.2 22 17 rfl]; exact hfd⟩
/-- a call that asks: from every world of these facts it comes to this answer -/
def EX (G : Gm) (M : MT) (as : List Value) (r : Option Value) (b : Nat → Nat) (sz : Nat) (ft : Int32) (N : List (List Nat)) (w wy : Nat → Nat) (lk nd : Nat) : Prop := ∀ S, ST S b sz ft N w wy lk nd → ∃ S1, Rm G M as S r S1 ∧ Ag PQ S S1
theorem pv_ex {v : Int32} (h : inR v (-1) (nI 5) = true) : ∃ p, p < 7 ∧ v = pv p := by
  by_cases e : v = -1
  · exact ⟨6, by decide, e.trans (show (-1 : Int32) = pv 6 by rfl)⟩
  · have h' : inR v (nI 0) (nI 5) = true := by
      simp only [inR, Bool.and_eq_true, decide_eq_true_eq] at h ⊢
      refine ⟨?_, h.2⟩
      have h1 := Int32.le_iff_toInt_le.mp h.1
      have h2 : (-1 : Int32).toInt = -1 := by decide
      rw [h2] at h1
      have h3 : v.toInt ≠ -1 := fun q => e (Int32.toInt_inj.mp (q.trans h2.symm))
      refine Int32.le_iff_toInt_le.mpr ?_
      rw [nI_toInt (by decide)]
      omega
    obtain ⟨j, hj, rfl⟩ := inR_ex (by decide) h'
    exact ⟨j, by omega, (if_neg (by omega)).symm⟩
theorem pv_in : ∀ p, p < 7 → inR (pv p) (-1) (nI 5) = true := by decide +kernel
theorem m1_ex {v : Int32} (h : inR v (-1) (nI 1) = true) : v = -1 ∨ ∃ j, j < 2 ∧ v = nI j := by
  by_cases e : v = -1
  · exact Or.inl e
  · right
    have h' : inR v (nI 0) (nI 1) = true := by
      simp only [inR, Bool.and_eq_true, decide_eq_true_eq] at h ⊢
      refine ⟨?_, h.2⟩
      have h1 := Int32.le_iff_toInt_le.mp h.1
      have h2 : (-1 : Int32).toInt = -1 := by decide
      rw [h2] at h1
      have h3 : v.toInt ≠ -1 := fun q => e (Int32.toInt_inj.mp (q.trans h2.symm))
      refine Int32.le_iff_toInt_le.mpr ?_
      rw [nI_toInt (by decide)]
      omega
    obtain ⟨j, hj, rfl⟩ := inR_ex (by decide) h'
    exact ⟨j, by omega, rfl⟩
theorem in1_ex {v : Int32} {K : Nat} (hK : K < 2 ^ 31) (h : inR v (nI 1) (nI K) = true) : ∃ j, 1 ≤ j ∧ j ≤ K ∧ v = nI j := by
  have h' : inR v (nI 0) (nI K) = true := by
    simp only [inR, Bool.and_eq_true, decide_eq_true_eq] at h ⊢
    refine ⟨?_, h.2⟩
    have h1 := Int32.le_iff_toInt_le.mp h.1
    rw [nI_toInt (by decide)] at h1
    refine Int32.le_iff_toInt_le.mpr ?_
    rw [nI_toInt (by decide)]
    omega
  obtain ⟨j, hj, rfl⟩ := inR_ex hK h'
  simp only [inR, Bool.and_eq_true, decide_eq_true_eq] at h
  exact ⟨j, (nI_leI (by decide) (by omega)).mp h.1, hj, rfl⟩
theorem in1_T {j K : Nat} (h1 : 1 ≤ j) (h : j ≤ K) (hK : K < 2 ^ 31) : inR (nI j) (nI 1) (nI K) = true := by
  rw [inR_N (by omega) (by decide) hK]; simp [h1, h]
set_option maxRecDepth 100000 in
theorem c_X8_isLot {G : Gm} {S : AS} {ft : Int32} {N : List (List Nat)} {a b' p : Int32} (hcn : CNv S ft N) (hN : WFN N) : Rm G M_X8_isLot [.ref (gB G + 0), .int a, .int b', .int p] S (some (.int (bI (tolB a N.length && tolB b' N.length && inR p (nI 0) (nI 16))))) S := by
  have hN8 := hN.1
  cases c0 : tolB a N.length with
  | false =>
    refine Rn_of hp_X8_isLot [some (.ref (gB G + 0)), some (.int a), some (.int b'), some (.int p)] rfl (Nat.le_of_ble_eq_true rfl) (Nat.le_of_ble_eq_true rfl) ?_
    refine V_al0 d_X8_isLot_0 ?_
    refine V_getR d_X8_isLot_1 rfl rfl (by decide) rfl ?_
    refine V_il1 d_X8_isLot_4 ?_
    refine U_cv1 d_X8_isLot_5 (c_X4_isTold hcn.2.1 hN8) rfl rfl rfl ?_
    refine V_eqB d_X8_isLot_8 (fun h8 => ?_) (fun q => (bTF q (c0)).elim)
    refine V_ki d_X8_isLot_33 ?_
    exact V_zret d_X8_isLot_34 rfl rfl (by first | rfl | simp_all) rfl
  | true =>
    cases c1 : tolB b' N.length with
    | false =>
      refine Rn_of hp_X8_isLot [some (.ref (gB G + 0)), some (.int a), some (.int b'), some (.int p)] rfl (Nat.le_of_ble_eq_true rfl) (Nat.le_of_ble_eq_true rfl) ?_
      refine V_al0 d_X8_isLot_0 ?_
      refine V_getR d_X8_isLot_1 rfl rfl (by decide) rfl ?_
      refine V_il1 d_X8_isLot_4 ?_
      refine U_cv1 d_X8_isLot_5 (c_X4_isTold hcn.2.1 hN8) rfl rfl rfl ?_
      refine V_eqB d_X8_isLot_8 (fun q => (bTF (c0) q).elim) (fun h8 => ?_)
      refine V_al0 d_X8_isLot_11 ?_
      refine V_getR d_X8_isLot_12 rfl rfl (by decide) rfl ?_
      refine V_il2 d_X8_isLot_15 ?_
      refine U_cv1 d_X8_isLot_16 (c_X4_isTold hcn.2.1 hN8) rfl rfl rfl ?_
      refine V_eqB d_X8_isLot_19 (fun h19 => ?_) (fun q => (bTF q (c1)).elim)
      refine V_ki d_X8_isLot_33 ?_
      exact V_zret d_X8_isLot_34 rfl rfl (by first | rfl | simp_all) rfl
    | true =>
      cases c2 : inR p (nI 0) (nI 16) with
      | false =>
        refine Rn_of hp_X8_isLot [some (.ref (gB G + 0)), some (.int a), some (.int b'), some (.int p)] rfl (Nat.le_of_ble_eq_true rfl) (Nat.le_of_ble_eq_true rfl) ?_
        refine V_al0 d_X8_isLot_0 ?_
        refine V_getR d_X8_isLot_1 rfl rfl (by decide) rfl ?_
        refine V_il1 d_X8_isLot_4 ?_
        refine U_cv1 d_X8_isLot_5 (c_X4_isTold hcn.2.1 hN8) rfl rfl rfl ?_
        refine V_eqB d_X8_isLot_8 (fun q => (bTF (c0) q).elim) (fun h8 => ?_)
        refine V_al0 d_X8_isLot_11 ?_
        refine V_getR d_X8_isLot_12 rfl rfl (by decide) rfl ?_
        refine V_il2 d_X8_isLot_15 ?_
        refine U_cv1 d_X8_isLot_16 (c_X4_isTold hcn.2.1 hN8) rfl rfl rfl ?_
        refine V_eqB d_X8_isLot_19 (fun q => (bTF (c1) q).elim) (fun h19 => ?_)
        refine V_il3 d_X8_isLot_22 ?_
        refine U_cs1 d_X8_isLot_23 (c_X8_isSixteenths) rfl ?_
        refine V_eqB d_X8_isLot_26 (fun h26 => ?_) (fun q => (bTF q (c2)).elim)
        refine V_ki d_X8_isLot_33 ?_
        exact V_zret d_X8_isLot_34 rfl rfl (by first | rfl | simp_all) rfl
      | true =>
        refine Rn_of hp_X8_isLot [some (.ref (gB G + 0)), some (.int a), some (.int b'), some (.int p)] rfl (Nat.le_of_ble_eq_true rfl) (Nat.le_of_ble_eq_true rfl) ?_
        refine V_al0 d_X8_isLot_0 ?_
        refine V_getR d_X8_isLot_1 rfl rfl (by decide) rfl ?_
        refine V_il1 d_X8_isLot_4 ?_
        refine U_cv1 d_X8_isLot_5 (c_X4_isTold hcn.2.1 hN8) rfl rfl rfl ?_
        refine V_eqB d_X8_isLot_8 (fun q => (bTF (c0) q).elim) (fun h8 => ?_)
        refine V_al0 d_X8_isLot_11 ?_
        refine V_getR d_X8_isLot_12 rfl rfl (by decide) rfl ?_
        refine V_il2 d_X8_isLot_15 ?_
        refine U_cv1 d_X8_isLot_16 (c_X4_isTold hcn.2.1 hN8) rfl rfl rfl ?_
        refine V_eqB d_X8_isLot_19 (fun q => (bTF (c1) q).elim) (fun h19 => ?_)
        refine V_il3 d_X8_isLot_22 ?_
        refine U_cs1 d_X8_isLot_23 (c_X8_isSixteenths) rfl ?_
        refine V_eqB d_X8_isLot_26 (fun q => (bTF (c2) q).elim) (fun h26 => ?_)
        refine V_ki d_X8_isLot_29 ?_
        refine V_goto d_X8_isLot_30 ?_
        exact V_zret d_X8_isLot_34 rfl rfl (by first | rfl | simp_all) rfl
set_option maxRecDepth 100000 in
theorem g8_night {G : Gm} {b : Nat → Nat} {sz : Nat} {ft : Int32} {N : List (List Nat)} {w wy : Nat → Nat} {lk nd : Nat} {n i : Nat} (hx : TXT b sz ft N) (hB : HB w wy lk nd) (hn : n < N.length) (hi : i ≤ 5) : EX G M_X8_night [.ref (gB G + 0), .int (nI n), .int (nI i)] (some (.int (sh (ni N n) i))) b sz ft N w wy lk nd := by
  intro S h
  obtain ⟨⟨hsz, hbs⟩, hcn, hmt, hhc, hhm, hsh, hfd⟩ := h
  have hN := PR_wf hx.2.2
  have hN8 := hN.1
  obtain ⟨l1, l2⟩ := hB.2.2.1
  obtain ⟨n1, n2⟩ := hB.2.2.2
  have c0 : tolB (nI n) N.length = true := tolB_nI (by omega) hn
  have c1 : inR (nI i) (nI 0) (nI 5) = true := inR_T (by omega) (by decide)
  refine ⟨S, ?_, Ag.rf⟩
  refine Rn_of hp_X8_night [some (.ref (gB G + 0)), some (.int (nI n)), some (.int (nI i))] rfl (Nat.le_of_ble_eq_true rfl) (Nat.le_of_ble_eq_true rfl) ?_
  refine V_al0 d_X8_night_0 ?_
  refine V_getR d_X8_night_1 rfl rfl (by decide) rfl ?_
  refine V_il1 d_X8_night_4 ?_
  refine U_cv1 d_X8_night_5 (c_X4_isTold hcn.2.1 hN8) rfl rfl rfl ?_
  refine V_eqB d_X8_night_8 (fun q => (bTF (c0) q).elim) (fun h8 => ?_)
  refine V_il2 d_X8_night_11 ?_
  refine V_ki d_X8_night_12 ?_
  refine V_ki d_X8_night_13 ?_
  refine U_cs3 d_X8_night_14 (c_X8_within) rfl ?_
  refine V_neB d_X8_night_17 (fun h17 => ?_) (fun q => (bTF (c1) q).elim)
  refine V_al0 d_X8_night_23 ?_
  refine V_getR d_X8_night_24 rfl rfl (by decide) rfl ?_
  refine V_il1 d_X8_night_27 ?_
  refine V_il2 d_X8_night_28 ?_
  refine U_cv2 d_X8_night_29 (c_X4_shedOf hcn hN hn (by omega)) rfl rfl rfl ?_
  exact V_iret d_X8_night_32 rfl (by first | rfl | simp_all) rfl
set_option maxRecDepth 100000 in
theorem g9_night {G : Gm} {b : Nat → Nat} {sz : Nat} {ft : Int32} {N : List (List Nat)} {w wy : Nat → Nat} {lk nd : Nat} {n i : Nat} (hx : TXT b sz ft N) (hB : HB w wy lk nd) (hn : n < N.length) (hi : i ≤ 5) : EX G M_X9_night [.ref (gB G + 22), .int (nI n), .int (nI i)] (some (.int (sh (ni N n) i))) b sz ft N w wy lk nd := by
  intro S h
  obtain ⟨⟨hsz, hbs⟩, hcn, hmt, hhc, hhm, hsh, hfd⟩ := h
  have hN := PR_wf hx.2.2
  have hN8 := hN.1
  obtain ⟨l1, l2⟩ := hB.2.2.1
  obtain ⟨n1, n2⟩ := hB.2.2.2
  have c0 : tolB (nI n) N.length = true := tolB_nI (by omega) hn
  have c1 : inR (nI i) (nI 0) (nI 5) = true := inR_T (by omega) (by decide)
  obtain ⟨S1, m1, m2, m3⟩ := c_X9_isNight (G := G) (v := nI n) hmt hx
  have hhm1 := hhm.ag m3 (fun _ => rfl) (fun _ => rfl) rfl rfl
  refine ⟨S1, ?_, PQ_M m3⟩
  refine Rn_of hp_X9_night [some (.ref (gB G + 22)), some (.int (nI n)), some (.int (nI i))] rfl (Nat.le_of_ble_eq_true rfl) (Nat.le_of_ble_eq_true rfl) ?_
  refine V_al0 d_X9_night_0 ?_
  refine V_il1 d_X9_night_1 ?_
  refine U_cv1 d_X9_night_2 (m1) rfl rfl rfl ?_
  refine V_eqB d_X9_night_5 (fun q => (bTF (c0) q).elim) (fun h5 => ?_)
  refine V_il2 d_X9_night_8 ?_
  refine U_cs1 d_X9_night_9 (c_X9_isShed) rfl ?_
  refine V_eqB d_X9_night_12 (fun q => (bTF (c1) q).elim) (fun h12 => ?_)
  refine V_al0 d_X9_night_15 ?_
  refine V_il1 d_X9_night_16 ?_
  refine V_il2 d_X9_night_17 ?_
  refine U_cv2 d_X9_night_18 (c_X9_nightOf m2 hN hn (by omega)) rfl rfl rfl ?_
  refine V_goto d_X9_night_21 ?_
  exact V_iret d_X9_night_26 rfl (by first | rfl | simp_all) rfl
set_option maxRecDepth 100000 in
theorem q_night {G : Gm} {b : Nat → Nat} {sz : Nat} {ft : Int32} {N : List (List Nat)} {w wy : Nat → Nat} {lk nd : Nat} {a i : Int32} (hx : TXT b sz ft N) (hB : HB w wy lk nd) : ∃ v : Int32, EX G M_X8_night [.ref (gB G + 0), .int a, .int i] (some (.int v)) b sz ft N w wy lk nd ∧ EX G M_X9_night [.ref (gB G + 22), .int a, .int i] (some (.int v)) b sz ft N w wy lk nd := by
  have hN := PR_wf hx.2.2
  have hN8 := hN.1
  obtain ⟨l1, l2⟩ := hB.2.2.1
  obtain ⟨n1, n2⟩ := hB.2.2.2
  cases c0 : tolB a N.length with
  | false =>
    refine ⟨-2, ?_, ?_⟩
    · intro S h
      obtain ⟨⟨hsz, hbs⟩, hcn, hmt, hhc, hhm, hsh, hfd⟩ := h
      refine ⟨S, ?_, Ag.rf⟩
      refine Rn_of hp_X8_night [some (.ref (gB G + 0)), some (.int a), some (.int i)] rfl (Nat.le_of_ble_eq_true rfl) (Nat.le_of_ble_eq_true rfl) ?_
      refine V_al0 d_X8_night_0 ?_
      refine V_getR d_X8_night_1 rfl rfl (by decide) rfl ?_
      refine V_il1 d_X8_night_4 ?_
      refine U_cv1 d_X8_night_5 (c_X4_isTold hcn.2.1 hN8) rfl rfl rfl ?_
      refine V_eqB d_X8_night_8 (fun h8 => ?_) (fun q => (bTF q (c0)).elim)
      refine V_ki d_X8_night_20 ?_
      exact V_iret d_X8_night_22 rfl (by first | rfl | simp_all) rfl
    · intro S h
      obtain ⟨⟨hsz, hbs⟩, hcn, hmt, hhc, hhm, hsh, hfd⟩ := h
      obtain ⟨S1, m1, m2, m3⟩ := c_X9_isNight (G := G) (v := a) hmt hx
      refine ⟨S1, ?_, PQ_M m3⟩
      refine Rn_of hp_X9_night [some (.ref (gB G + 22)), some (.int a), some (.int i)] rfl (Nat.le_of_ble_eq_true rfl) (Nat.le_of_ble_eq_true rfl) ?_
      refine V_al0 d_X9_night_0 ?_
      refine V_il1 d_X9_night_1 ?_
      refine U_cv1 d_X9_night_2 (m1) rfl rfl rfl ?_
      refine V_eqB d_X9_night_5 (fun h5 => ?_) (fun q => (bTF q (c0)).elim)
      refine V_ki d_X9_night_24 ?_
      exact V_iret d_X9_night_26 rfl (by first | rfl | simp_all) rfl
  | true =>
    cases c1 : inR i (nI 0) (nI 5) with
    | false =>
      refine ⟨-2, ?_, ?_⟩
      · intro S h
        obtain ⟨⟨hsz, hbs⟩, hcn, hmt, hhc, hhm, hsh, hfd⟩ := h
        refine ⟨S, ?_, Ag.rf⟩
        refine Rn_of hp_X8_night [some (.ref (gB G + 0)), some (.int a), some (.int i)] rfl (Nat.le_of_ble_eq_true rfl) (Nat.le_of_ble_eq_true rfl) ?_
        refine V_al0 d_X8_night_0 ?_
        refine V_getR d_X8_night_1 rfl rfl (by decide) rfl ?_
        refine V_il1 d_X8_night_4 ?_
        refine U_cv1 d_X8_night_5 (c_X4_isTold hcn.2.1 hN8) rfl rfl rfl ?_
        refine V_eqB d_X8_night_8 (fun q => (bTF (c0) q).elim) (fun h8 => ?_)
        refine V_il2 d_X8_night_11 ?_
        refine V_ki d_X8_night_12 ?_
        refine V_ki d_X8_night_13 ?_
        refine U_cs3 d_X8_night_14 (c_X8_within) rfl ?_
        refine V_neB d_X8_night_17 (fun q => (bTF q (c1)).elim) (fun h17 => ?_)
        refine V_ki d_X8_night_20 ?_
        exact V_iret d_X8_night_22 rfl (by first | rfl | simp_all) rfl
      · intro S h
        obtain ⟨⟨hsz, hbs⟩, hcn, hmt, hhc, hhm, hsh, hfd⟩ := h
        obtain ⟨S1, m1, m2, m3⟩ := c_X9_isNight (G := G) (v := a) hmt hx
        refine ⟨S1, ?_, PQ_M m3⟩
        refine Rn_of hp_X9_night [some (.ref (gB G + 22)), some (.int a), some (.int i)] rfl (Nat.le_of_ble_eq_true rfl) (Nat.le_of_ble_eq_true rfl) ?_
        refine V_al0 d_X9_night_0 ?_
        refine V_il1 d_X9_night_1 ?_
        refine U_cv1 d_X9_night_2 (m1) rfl rfl rfl ?_
        refine V_eqB d_X9_night_5 (fun q => (bTF (c0) q).elim) (fun h5 => ?_)
        refine V_il2 d_X9_night_8 ?_
        refine U_cs1 d_X9_night_9 (c_X9_isShed) rfl ?_
        refine V_eqB d_X9_night_12 (fun h12 => ?_) (fun q => (bTF q (c1)).elim)
        refine V_ki d_X9_night_24 ?_
        exact V_iret d_X9_night_26 rfl (by first | rfl | simp_all) rfl
    | true =>
      obtain ⟨n, hn, rfl⟩ := tolB_ex (by omega) c0
      obtain ⟨i, hi, rfl⟩ := inR_ex (by decide) c1
      exact ⟨_, g8_night hx hB hn hi, g9_night hx hB hn hi⟩
set_option maxRecDepth 100000 in
theorem g8_at {G : Gm} {b : Nat → Nat} {sz : Nat} {ft : Int32} {N : List (List Nat)} {w wy : Nat → Nat} {lk nd : Nat} {n i : Nat} (hx : TXT b sz ft N) (hB : HB w wy lk nd) (hn : n < N.length) (hi : i ≤ 59) : EX G M_X8_at [.ref (gB G + 0), .int (nI n), .int (nI i)] (some (.int (atL wy lk (ni N n) 0 i))) b sz ft N w wy lk nd := by
  intro S h
  obtain ⟨⟨hsz, hbs⟩, hcn, hmt, hhc, hhm, hsh, hfd⟩ := h
  have hN := PR_wf hx.2.2
  have hN8 := hN.1
  obtain ⟨l1, l2⟩ := hB.2.2.1
  obtain ⟨n1, n2⟩ := hB.2.2.2
  have c0 : tolB (nI n) N.length = true := tolB_nI (by omega) hn
  have c1 : inR (nI i) (nI 0) (nI 59) = true := inR_T (by omega) (by decide)
  refine ⟨S, ?_, Ag.rf⟩
  refine Rn_of hp_X8_at [some (.ref (gB G + 0)), some (.int (nI n)), some (.int (nI i))] rfl (Nat.le_of_ble_eq_true rfl) (Nat.le_of_ble_eq_true rfl) ?_
  refine V_al0 d_X8_at_0 ?_
  refine V_getR d_X8_at_1 rfl rfl (by decide) rfl ?_
  refine V_il1 d_X8_at_4 ?_
  refine U_cv1 d_X8_at_5 (c_X4_isTold hcn.2.1 hN8) rfl rfl rfl ?_
  refine V_eqB d_X8_at_8 (fun q => (bTF (c0) q).elim) (fun h8 => ?_)
  refine V_il2 d_X8_at_11 ?_
  refine V_ki d_X8_at_12 ?_
  refine V_ki d_X8_at_13 ?_
  refine U_cs3 d_X8_at_15 (c_X8_within) rfl ?_
  refine V_neB d_X8_at_18 (fun h18 => ?_) (fun q => (bTF (c1) q).elim)
  refine V_al0 d_X8_at_24 ?_
  refine V_getR d_X8_at_25 rfl rfl (by decide) rfl ?_
  refine V_il1 d_X8_at_28 ?_
  refine V_il2 d_X8_at_29 ?_
  refine U_cv2 d_X8_at_30 (c_X7_shedIn hhc hB hcn hN hn (by omega)) rfl rfl rfl ?_
  exact V_iret d_X8_at_33 rfl (by first | rfl | simp_all) rfl
set_option maxRecDepth 100000 in
theorem g9_at {G : Gm} {b : Nat → Nat} {sz : Nat} {ft : Int32} {N : List (List Nat)} {w wy : Nat → Nat} {lk nd : Nat} {n i : Nat} (hx : TXT b sz ft N) (hB : HB w wy lk nd) (hn : n < N.length) (hi : i ≤ 59) : EX G M_X9_at [.ref (gB G + 22), .int (nI n), .int (nI i)] (some (.int (atL wy lk (ni N n) 0 i))) b sz ft N w wy lk nd := by
  intro S h
  obtain ⟨⟨hsz, hbs⟩, hcn, hmt, hhc, hhm, hsh, hfd⟩ := h
  have hN := PR_wf hx.2.2
  have hN8 := hN.1
  obtain ⟨l1, l2⟩ := hB.2.2.1
  obtain ⟨n1, n2⟩ := hB.2.2.2
  have c0 : tolB (nI n) N.length = true := tolB_nI (by omega) hn
  have c1 : inR (nI i) (nI 0) (nI 59) = true := inR_T (by omega) (by decide)
  obtain ⟨S1, m1, m2, m3⟩ := c_X9_isNight (G := G) (v := nI n) hmt hx
  have hhm1 := hhm.ag m3 (fun _ => rfl) (fun _ => rfl) rfl rfl
  refine ⟨S1, ?_, PQ_M m3⟩
  refine Rn_of hp_X9_at [some (.ref (gB G + 22)), some (.int (nI n)), some (.int (nI i))] rfl (Nat.le_of_ble_eq_true rfl) (Nat.le_of_ble_eq_true rfl) ?_
  refine V_al0 d_X9_at_0 ?_
  refine V_il1 d_X9_at_1 ?_
  refine U_cv1 d_X9_at_2 (m1) rfl rfl rfl ?_
  refine V_eqB d_X9_at_5 (fun q => (bTF (c0) q).elim) (fun h5 => ?_)
  refine V_il2 d_X9_at_8 ?_
  refine V_ki d_X9_at_9 ?_
  refine V_ki d_X9_at_10 ?_
  refine U_cs3 d_X9_at_12 (c_X9_in) rfl ?_
  refine V_eqB d_X9_at_15 (fun q => (bTF (c1) q).elim) (fun h15 => ?_)
  refine V_al0 d_X9_at_18 ?_
  refine V_il1 d_X9_at_19 ?_
  refine V_il2 d_X9_at_20 ?_
  refine U_cv2 d_X9_at_21 (c_X9_atOf hhm1 hB m2 hN hn (by omega)) rfl rfl rfl ?_
  refine V_goto d_X9_at_24 ?_
  exact V_iret d_X9_at_29 rfl (by first | rfl | simp_all) rfl
set_option maxRecDepth 100000 in
theorem q_at {G : Gm} {b : Nat → Nat} {sz : Nat} {ft : Int32} {N : List (List Nat)} {w wy : Nat → Nat} {lk nd : Nat} {a i : Int32} (hx : TXT b sz ft N) (hB : HB w wy lk nd) : ∃ v : Int32, EX G M_X8_at [.ref (gB G + 0), .int a, .int i] (some (.int v)) b sz ft N w wy lk nd ∧ EX G M_X9_at [.ref (gB G + 22), .int a, .int i] (some (.int v)) b sz ft N w wy lk nd := by
  have hN := PR_wf hx.2.2
  have hN8 := hN.1
  obtain ⟨l1, l2⟩ := hB.2.2.1
  obtain ⟨n1, n2⟩ := hB.2.2.2
  cases c0 : tolB a N.length with
  | false =>
    refine ⟨-2, ?_, ?_⟩
    · intro S h
      obtain ⟨⟨hsz, hbs⟩, hcn, hmt, hhc, hhm, hsh, hfd⟩ := h
      refine ⟨S, ?_, Ag.rf⟩
      refine Rn_of hp_X8_at [some (.ref (gB G + 0)), some (.int a), some (.int i)] rfl (Nat.le_of_ble_eq_true rfl) (Nat.le_of_ble_eq_true rfl) ?_
      refine V_al0 d_X8_at_0 ?_
      refine V_getR d_X8_at_1 rfl rfl (by decide) rfl ?_
      refine V_il1 d_X8_at_4 ?_
      refine U_cv1 d_X8_at_5 (c_X4_isTold hcn.2.1 hN8) rfl rfl rfl ?_
      refine V_eqB d_X8_at_8 (fun h8 => ?_) (fun q => (bTF q (c0)).elim)
      refine V_ki d_X8_at_21 ?_
      exact V_iret d_X8_at_23 rfl (by first | rfl | simp_all) rfl
    · intro S h
      obtain ⟨⟨hsz, hbs⟩, hcn, hmt, hhc, hhm, hsh, hfd⟩ := h
      obtain ⟨S1, m1, m2, m3⟩ := c_X9_isNight (G := G) (v := a) hmt hx
      refine ⟨S1, ?_, PQ_M m3⟩
      refine Rn_of hp_X9_at [some (.ref (gB G + 22)), some (.int a), some (.int i)] rfl (Nat.le_of_ble_eq_true rfl) (Nat.le_of_ble_eq_true rfl) ?_
      refine V_al0 d_X9_at_0 ?_
      refine V_il1 d_X9_at_1 ?_
      refine U_cv1 d_X9_at_2 (m1) rfl rfl rfl ?_
      refine V_eqB d_X9_at_5 (fun h5 => ?_) (fun q => (bTF q (c0)).elim)
      refine V_ki d_X9_at_27 ?_
      exact V_iret d_X9_at_29 rfl (by first | rfl | simp_all) rfl
  | true =>
    cases c1 : inR i (nI 0) (nI 59) with
    | false =>
      refine ⟨-2, ?_, ?_⟩
      · intro S h
        obtain ⟨⟨hsz, hbs⟩, hcn, hmt, hhc, hhm, hsh, hfd⟩ := h
        refine ⟨S, ?_, Ag.rf⟩
        refine Rn_of hp_X8_at [some (.ref (gB G + 0)), some (.int a), some (.int i)] rfl (Nat.le_of_ble_eq_true rfl) (Nat.le_of_ble_eq_true rfl) ?_
        refine V_al0 d_X8_at_0 ?_
        refine V_getR d_X8_at_1 rfl rfl (by decide) rfl ?_
        refine V_il1 d_X8_at_4 ?_
        refine U_cv1 d_X8_at_5 (c_X4_isTold hcn.2.1 hN8) rfl rfl rfl ?_
        refine V_eqB d_X8_at_8 (fun q => (bTF (c0) q).elim) (fun h8 => ?_)
        refine V_il2 d_X8_at_11 ?_
        refine V_ki d_X8_at_12 ?_
        refine V_ki d_X8_at_13 ?_
        refine U_cs3 d_X8_at_15 (c_X8_within) rfl ?_
        refine V_neB d_X8_at_18 (fun q => (bTF q (c1)).elim) (fun h18 => ?_)
        refine V_ki d_X8_at_21 ?_
        exact V_iret d_X8_at_23 rfl (by first | rfl | simp_all) rfl
      · intro S h
        obtain ⟨⟨hsz, hbs⟩, hcn, hmt, hhc, hhm, hsh, hfd⟩ := h
        obtain ⟨S1, m1, m2, m3⟩ := c_X9_isNight (G := G) (v := a) hmt hx
        refine ⟨S1, ?_, PQ_M m3⟩
        refine Rn_of hp_X9_at [some (.ref (gB G + 22)), some (.int a), some (.int i)] rfl (Nat.le_of_ble_eq_true rfl) (Nat.le_of_ble_eq_true rfl) ?_
        refine V_al0 d_X9_at_0 ?_
        refine V_il1 d_X9_at_1 ?_
        refine U_cv1 d_X9_at_2 (m1) rfl rfl rfl ?_
        refine V_eqB d_X9_at_5 (fun q => (bTF (c0) q).elim) (fun h5 => ?_)
        refine V_il2 d_X9_at_8 ?_
        refine V_ki d_X9_at_9 ?_
        refine V_ki d_X9_at_10 ?_
        refine U_cs3 d_X9_at_12 (c_X9_in) rfl ?_
        refine V_eqB d_X9_at_15 (fun h15 => ?_) (fun q => (bTF q (c1)).elim)
        refine V_ki d_X9_at_27 ?_
        exact V_iret d_X9_at_29 rfl (by first | rfl | simp_all) rfl
    | true =>
      obtain ⟨n, hn, rfl⟩ := tolB_ex (by omega) c0
      obtain ⟨i, hi, rfl⟩ := inR_ex (by decide) c1
      exact ⟨_, g8_at hx hB hn hi, g9_at hx hB hn hi⟩
set_option maxRecDepth 100000 in
theorem g8_when {G : Gm} {b : Nat → Nat} {sz : Nat} {ft : Int32} {N : List (List Nat)} {w wy : Nat → Nat} {lk nd : Nat} {n i : Nat} (hx : TXT b sz ft N) (hB : HB w wy lk nd) (hn : n < N.length) (hi : i ≤ 5) : EX G M_X8_when [.ref (gB G + 0), .int (nI n), .int (nI i)] (some (.int (ctI (arO wy lk (ni N n) 0 i)))) b sz ft N w wy lk nd := by
  intro S h
  obtain ⟨⟨hsz, hbs⟩, hcn, hmt, hhc, hhm, hsh, hfd⟩ := h
  have hN := PR_wf hx.2.2
  have hN8 := hN.1
  obtain ⟨l1, l2⟩ := hB.2.2.1
  obtain ⟨n1, n2⟩ := hB.2.2.2
  have c0 : tolB (nI n) N.length = true := tolB_nI (by omega) hn
  have c1 : inR (nI i) (nI 0) (nI 5) = true := inR_T (by omega) (by decide)
  refine ⟨S, ?_, Ag.rf⟩
  refine Rn_of hp_X8_when [some (.ref (gB G + 0)), some (.int (nI n)), some (.int (nI i))] rfl (Nat.le_of_ble_eq_true rfl) (Nat.le_of_ble_eq_true rfl) ?_
  refine V_al0 d_X8_when_0 ?_
  refine V_getR d_X8_when_1 rfl rfl (by decide) rfl ?_
  refine V_il1 d_X8_when_4 ?_
  refine U_cv1 d_X8_when_5 (c_X4_isTold hcn.2.1 hN8) rfl rfl rfl ?_
  refine V_eqB d_X8_when_8 (fun q => (bTF (c0) q).elim) (fun h8 => ?_)
  refine V_il2 d_X8_when_11 ?_
  refine U_cs1 d_X8_when_12 (c_X8_isShed) rfl ?_
  refine V_neB d_X8_when_15 (fun h15 => ?_) (fun q => (bTF (c1) q).elim)
  refine V_al0 d_X8_when_21 ?_
  refine V_getR d_X8_when_22 rfl rfl (by decide) rfl ?_
  refine V_il1 d_X8_when_25 ?_
  refine V_il2 d_X8_when_26 ?_
  refine U_cv2 d_X8_when_27 (c_X7_comesTo hhc hB hcn hN hn (by omega)) rfl rfl rfl ?_
  exact V_iret d_X8_when_30 rfl (by first | rfl | simp_all) rfl
set_option maxRecDepth 100000 in
theorem g9_when {G : Gm} {b : Nat → Nat} {sz : Nat} {ft : Int32} {N : List (List Nat)} {w wy : Nat → Nat} {lk nd : Nat} {n i : Nat} (hx : TXT b sz ft N) (hB : HB w wy lk nd) (hn : n < N.length) (hi : i ≤ 5) : EX G M_X9_when [.ref (gB G + 22), .int (nI n), .int (nI i)] (some (.int (ctI (arO wy lk (ni N n) 0 i)))) b sz ft N w wy lk nd := by
  intro S h
  obtain ⟨⟨hsz, hbs⟩, hcn, hmt, hhc, hhm, hsh, hfd⟩ := h
  have hN := PR_wf hx.2.2
  have hN8 := hN.1
  obtain ⟨l1, l2⟩ := hB.2.2.1
  obtain ⟨n1, n2⟩ := hB.2.2.2
  have c0 : tolB (nI n) N.length = true := tolB_nI (by omega) hn
  have c1 : inR (nI i) (nI 0) (nI 5) = true := inR_T (by omega) (by decide)
  obtain ⟨S1, m1, m2, m3⟩ := c_X9_isNight (G := G) (v := nI n) hmt hx
  have hhm1 := hhm.ag m3 (fun _ => rfl) (fun _ => rfl) rfl rfl
  refine ⟨S1, ?_, PQ_M m3⟩
  refine Rn_of hp_X9_when [some (.ref (gB G + 22)), some (.int (nI n)), some (.int (nI i))] rfl (Nat.le_of_ble_eq_true rfl) (Nat.le_of_ble_eq_true rfl) ?_
  refine V_al0 d_X9_when_0 ?_
  refine V_il1 d_X9_when_1 ?_
  refine U_cv1 d_X9_when_2 (m1) rfl rfl rfl ?_
  refine V_eqB d_X9_when_5 (fun q => (bTF (c0) q).elim) (fun h5 => ?_)
  refine V_il2 d_X9_when_8 ?_
  refine U_cs1 d_X9_when_9 (c_X9_isShed) rfl ?_
  refine V_eqB d_X9_when_12 (fun q => (bTF (c1) q).elim) (fun h12 => ?_)
  refine V_al0 d_X9_when_15 ?_
  refine V_il1 d_X9_when_16 ?_
  refine V_il2 d_X9_when_17 ?_
  refine U_cv2 d_X9_when_18 (c_X9_whenOf hhm1 hB m2 hN hn (by omega)) rfl rfl rfl ?_
  refine V_goto d_X9_when_21 ?_
  exact V_iret d_X9_when_26 rfl (by first | rfl | simp_all) rfl
set_option maxRecDepth 100000 in
theorem q_when {G : Gm} {b : Nat → Nat} {sz : Nat} {ft : Int32} {N : List (List Nat)} {w wy : Nat → Nat} {lk nd : Nat} {a i : Int32} (hx : TXT b sz ft N) (hB : HB w wy lk nd) : ∃ v : Int32, EX G M_X8_when [.ref (gB G + 0), .int a, .int i] (some (.int v)) b sz ft N w wy lk nd ∧ EX G M_X9_when [.ref (gB G + 22), .int a, .int i] (some (.int v)) b sz ft N w wy lk nd := by
  have hN := PR_wf hx.2.2
  have hN8 := hN.1
  obtain ⟨l1, l2⟩ := hB.2.2.1
  obtain ⟨n1, n2⟩ := hB.2.2.2
  cases c0 : tolB a N.length with
  | false =>
    refine ⟨-2, ?_, ?_⟩
    · intro S h
      obtain ⟨⟨hsz, hbs⟩, hcn, hmt, hhc, hhm, hsh, hfd⟩ := h
      refine ⟨S, ?_, Ag.rf⟩
      refine Rn_of hp_X8_when [some (.ref (gB G + 0)), some (.int a), some (.int i)] rfl (Nat.le_of_ble_eq_true rfl) (Nat.le_of_ble_eq_true rfl) ?_
      refine V_al0 d_X8_when_0 ?_
      refine V_getR d_X8_when_1 rfl rfl (by decide) rfl ?_
      refine V_il1 d_X8_when_4 ?_
      refine U_cv1 d_X8_when_5 (c_X4_isTold hcn.2.1 hN8) rfl rfl rfl ?_
      refine V_eqB d_X8_when_8 (fun h8 => ?_) (fun q => (bTF q (c0)).elim)
      refine V_ki d_X8_when_18 ?_
      exact V_iret d_X8_when_20 rfl (by first | rfl | simp_all) rfl
    · intro S h
      obtain ⟨⟨hsz, hbs⟩, hcn, hmt, hhc, hhm, hsh, hfd⟩ := h
      obtain ⟨S1, m1, m2, m3⟩ := c_X9_isNight (G := G) (v := a) hmt hx
      refine ⟨S1, ?_, PQ_M m3⟩
      refine Rn_of hp_X9_when [some (.ref (gB G + 22)), some (.int a), some (.int i)] rfl (Nat.le_of_ble_eq_true rfl) (Nat.le_of_ble_eq_true rfl) ?_
      refine V_al0 d_X9_when_0 ?_
      refine V_il1 d_X9_when_1 ?_
      refine U_cv1 d_X9_when_2 (m1) rfl rfl rfl ?_
      refine V_eqB d_X9_when_5 (fun h5 => ?_) (fun q => (bTF q (c0)).elim)
      refine V_ki d_X9_when_24 ?_
      exact V_iret d_X9_when_26 rfl (by first | rfl | simp_all) rfl
  | true =>
    cases c1 : inR i (nI 0) (nI 5) with
    | false =>
      refine ⟨-2, ?_, ?_⟩
      · intro S h
        obtain ⟨⟨hsz, hbs⟩, hcn, hmt, hhc, hhm, hsh, hfd⟩ := h
        refine ⟨S, ?_, Ag.rf⟩
        refine Rn_of hp_X8_when [some (.ref (gB G + 0)), some (.int a), some (.int i)] rfl (Nat.le_of_ble_eq_true rfl) (Nat.le_of_ble_eq_true rfl) ?_
        refine V_al0 d_X8_when_0 ?_
        refine V_getR d_X8_when_1 rfl rfl (by decide) rfl ?_
        refine V_il1 d_X8_when_4 ?_
        refine U_cv1 d_X8_when_5 (c_X4_isTold hcn.2.1 hN8) rfl rfl rfl ?_
        refine V_eqB d_X8_when_8 (fun q => (bTF (c0) q).elim) (fun h8 => ?_)
        refine V_il2 d_X8_when_11 ?_
        refine U_cs1 d_X8_when_12 (c_X8_isShed) rfl ?_
        refine V_neB d_X8_when_15 (fun q => (bTF q (c1)).elim) (fun h15 => ?_)
        refine V_ki d_X8_when_18 ?_
        exact V_iret d_X8_when_20 rfl (by first | rfl | simp_all) rfl
      · intro S h
        obtain ⟨⟨hsz, hbs⟩, hcn, hmt, hhc, hhm, hsh, hfd⟩ := h
        obtain ⟨S1, m1, m2, m3⟩ := c_X9_isNight (G := G) (v := a) hmt hx
        refine ⟨S1, ?_, PQ_M m3⟩
        refine Rn_of hp_X9_when [some (.ref (gB G + 22)), some (.int a), some (.int i)] rfl (Nat.le_of_ble_eq_true rfl) (Nat.le_of_ble_eq_true rfl) ?_
        refine V_al0 d_X9_when_0 ?_
        refine V_il1 d_X9_when_1 ?_
        refine U_cv1 d_X9_when_2 (m1) rfl rfl rfl ?_
        refine V_eqB d_X9_when_5 (fun q => (bTF (c0) q).elim) (fun h5 => ?_)
        refine V_il2 d_X9_when_8 ?_
        refine U_cs1 d_X9_when_9 (c_X9_isShed) rfl ?_
        refine V_eqB d_X9_when_12 (fun h12 => ?_) (fun q => (bTF q (c1)).elim)
        refine V_ki d_X9_when_24 ?_
        exact V_iret d_X9_when_26 rfl (by first | rfl | simp_all) rfl
    | true =>
      obtain ⟨n, hn, rfl⟩ := tolB_ex (by omega) c0
      obtain ⟨i, hi, rfl⟩ := inR_ex (by decide) c1
      exact ⟨_, g8_when hx hB hn hi, g9_when hx hB hn hi⟩
set_option maxRecDepth 100000 in
theorem g8_alone {G : Gm} {b : Nat → Nat} {sz : Nat} {ft : Int32} {N : List (List Nat)} {w wy : Nat → Nat} {lk nd : Nat} {n i j : Nat} (hx : TXT b sz ft N) (hB : HB w wy lk nd) (hn : n < N.length) (hi : i ≤ 5) (hj : j ≤ 1) : EX G M_X8_alone [.ref (gB G + 0), .int (nI n), .int (nI i), .int (nI j)] (some (.int (nI (if j = 0 then alF (arO wy lk (ni N n) 0 i) lk else alG (arO wy lk (ni N n) 0 i) lk)))) b sz ft N w wy lk nd := by
  intro S h
  obtain ⟨⟨hsz, hbs⟩, hcn, hmt, hhc, hhm, hsh, hfd⟩ := h
  have hN := PR_wf hx.2.2
  have hN8 := hN.1
  obtain ⟨l1, l2⟩ := hB.2.2.1
  obtain ⟨n1, n2⟩ := hB.2.2.2
  have c0 : tolB (nI n) N.length = true := tolB_nI (by omega) hn
  have c1 : inR (nI i) (nI 0) (nI 5) = true := inR_T (by omega) (by decide)
  have c2 : inR (nI j) (nI 0) (nI 1) = true := inR_T (by omega) (by decide)
  refine ⟨S, ?_, Ag.rf⟩
  refine Rn_of hp_X8_alone [some (.ref (gB G + 0)), some (.int (nI n)), some (.int (nI i)), some (.int (nI j))] rfl (Nat.le_of_ble_eq_true rfl) (Nat.le_of_ble_eq_true rfl) ?_
  refine V_al0 d_X8_alone_0 ?_
  refine V_getR d_X8_alone_1 rfl rfl (by decide) rfl ?_
  refine V_il1 d_X8_alone_4 ?_
  refine U_cv1 d_X8_alone_5 (c_X4_isTold hcn.2.1 hN8) rfl rfl rfl ?_
  refine V_eqB d_X8_alone_8 (fun q => (bTF (c0) q).elim) (fun h8 => ?_)
  refine V_il2 d_X8_alone_11 ?_
  refine U_cs1 d_X8_alone_12 (c_X8_isShed) rfl ?_
  refine V_eqB d_X8_alone_15 (fun q => (bTF (c1) q).elim) (fun h15 => ?_)
  refine V_il3 d_X8_alone_18 ?_
  refine V_ki d_X8_alone_19 ?_
  refine V_ki d_X8_alone_20 ?_
  refine U_cs3 d_X8_alone_21 (c_X8_within) rfl ?_
  refine V_neB d_X8_alone_24 (fun h24 => ?_) (fun q => (bTF (c2) q).elim)
  refine V_il3 d_X8_alone_30 ?_
  refine U_if_neN d_X8_alone_31 (by omega) (fun h31 => ?_) (fun h31 => ?_)
  · refine V_al0 d_X8_alone_46 ?_
    refine V_getR d_X8_alone_47 rfl rfl (by decide) rfl ?_
    refine V_il1 d_X8_alone_50 ?_
    refine V_il2 d_X8_alone_51 ?_
    refine U_cv2 d_X8_alone_52 (c_X7_aloneFrom hhc hB hcn hN hn (by omega)) rfl rfl rfl ?_
    exact V_iret d_X8_alone_55 rfl (by first | rw [if_pos h31] | rw [if_neg h31]) rfl
  · refine V_al0 d_X8_alone_34 ?_
    refine V_getR d_X8_alone_35 rfl rfl (by decide) rfl ?_
    refine V_il1 d_X8_alone_38 ?_
    refine V_il2 d_X8_alone_39 ?_
    refine U_cv2 d_X8_alone_40 (c_X7_aloneFor hhc hB hcn hN hn (by omega)) rfl rfl rfl ?_
    refine V_goto d_X8_alone_43 ?_
    exact V_iret d_X8_alone_55 rfl (by first | rw [if_pos h31] | rw [if_neg h31]) rfl
set_option maxRecDepth 100000 in
theorem g9_alone {G : Gm} {b : Nat → Nat} {sz : Nat} {ft : Int32} {N : List (List Nat)} {w wy : Nat → Nat} {lk nd : Nat} {n i j : Nat} (hx : TXT b sz ft N) (hB : HB w wy lk nd) (hn : n < N.length) (hi : i ≤ 5) (hj : j ≤ 1) : EX G M_X9_alone [.ref (gB G + 22), .int (nI n), .int (nI i), .int (nI j)] (some (.int (nI (if j = 0 then alF (arO wy lk (ni N n) 0 i) lk else alG (arO wy lk (ni N n) 0 i) lk)))) b sz ft N w wy lk nd := by
  intro S h
  obtain ⟨⟨hsz, hbs⟩, hcn, hmt, hhc, hhm, hsh, hfd⟩ := h
  have hN := PR_wf hx.2.2
  have hN8 := hN.1
  obtain ⟨l1, l2⟩ := hB.2.2.1
  obtain ⟨n1, n2⟩ := hB.2.2.2
  have c0 : tolB (nI n) N.length = true := tolB_nI (by omega) hn
  have c1 : inR (nI i) (nI 0) (nI 5) = true := inR_T (by omega) (by decide)
  have c2 : inR (nI j) (nI 0) (nI 1) = true := inR_T (by omega) (by decide)
  obtain ⟨S1, m1, m2, m3⟩ := c_X9_isNight (G := G) (v := nI n) hmt hx
  have hhm1 := hhm.ag m3 (fun _ => rfl) (fun _ => rfl) rfl rfl
  refine ⟨S1, ?_, PQ_M m3⟩
  refine Rn_of hp_X9_alone [some (.ref (gB G + 22)), some (.int (nI n)), some (.int (nI i)), some (.int (nI j))] rfl (Nat.le_of_ble_eq_true rfl) (Nat.le_of_ble_eq_true rfl) ?_
  refine V_al0 d_X9_alone_0 ?_
  refine V_il1 d_X9_alone_1 ?_
  refine U_cv1 d_X9_alone_2 (m1) rfl rfl rfl ?_
  refine V_eqB d_X9_alone_5 (fun q => (bTF (c0) q).elim) (fun h5 => ?_)
  refine V_il2 d_X9_alone_8 ?_
  refine U_cs1 d_X9_alone_9 (c_X9_isShed) rfl ?_
  refine V_eqB d_X9_alone_12 (fun q => (bTF (c1) q).elim) (fun h12 => ?_)
  refine V_il3 d_X9_alone_15 ?_
  refine V_ki d_X9_alone_16 ?_
  refine V_ki d_X9_alone_17 ?_
  refine U_cs3 d_X9_alone_18 (c_X9_in) rfl ?_
  refine V_eqB d_X9_alone_21 (fun q => (bTF (c2) q).elim) (fun h21 => ?_)
  refine V_al0 d_X9_alone_24 ?_
  refine V_il1 d_X9_alone_25 ?_
  refine V_il2 d_X9_alone_26 ?_
  refine V_il3 d_X9_alone_27 ?_
  refine U_cv3 d_X9_alone_28 (c_X9_aloneOf hhm1 hB m2 hN hn (by omega) (by omega)) rfl rfl rfl ?_
  refine V_goto d_X9_alone_31 ?_
  exact V_iret d_X9_alone_36 rfl (by first | rfl | simp_all) rfl
set_option maxRecDepth 100000 in
theorem q_alone {G : Gm} {b : Nat → Nat} {sz : Nat} {ft : Int32} {N : List (List Nat)} {w wy : Nat → Nat} {lk nd : Nat} {a i j : Int32} (hx : TXT b sz ft N) (hB : HB w wy lk nd) : ∃ v : Int32, EX G M_X8_alone [.ref (gB G + 0), .int a, .int i, .int j] (some (.int v)) b sz ft N w wy lk nd ∧ EX G M_X9_alone [.ref (gB G + 22), .int a, .int i, .int j] (some (.int v)) b sz ft N w wy lk nd := by
  have hN := PR_wf hx.2.2
  have hN8 := hN.1
  obtain ⟨l1, l2⟩ := hB.2.2.1
  obtain ⟨n1, n2⟩ := hB.2.2.2
  cases c0 : tolB a N.length with
  | false =>
    refine ⟨-2, ?_, ?_⟩
    · intro S h
      obtain ⟨⟨hsz, hbs⟩, hcn, hmt, hhc, hhm, hsh, hfd⟩ := h
      refine ⟨S, ?_, Ag.rf⟩
      refine Rn_of hp_X8_alone [some (.ref (gB G + 0)), some (.int a), some (.int i), some (.int j)] rfl (Nat.le_of_ble_eq_true rfl) (Nat.le_of_ble_eq_true rfl) ?_
      refine V_al0 d_X8_alone_0 ?_
      refine V_getR d_X8_alone_1 rfl rfl (by decide) rfl ?_
      refine V_il1 d_X8_alone_4 ?_
      refine U_cv1 d_X8_alone_5 (c_X4_isTold hcn.2.1 hN8) rfl rfl rfl ?_
      refine V_eqB d_X8_alone_8 (fun h8 => ?_) (fun q => (bTF q (c0)).elim)
      refine V_ki d_X8_alone_27 ?_
      exact V_iret d_X8_alone_29 rfl (by first | rfl | simp_all) rfl
    · intro S h
      obtain ⟨⟨hsz, hbs⟩, hcn, hmt, hhc, hhm, hsh, hfd⟩ := h
      obtain ⟨S1, m1, m2, m3⟩ := c_X9_isNight (G := G) (v := a) hmt hx
      refine ⟨S1, ?_, PQ_M m3⟩
      refine Rn_of hp_X9_alone [some (.ref (gB G + 22)), some (.int a), some (.int i), some (.int j)] rfl (Nat.le_of_ble_eq_true rfl) (Nat.le_of_ble_eq_true rfl) ?_
      refine V_al0 d_X9_alone_0 ?_
      refine V_il1 d_X9_alone_1 ?_
      refine U_cv1 d_X9_alone_2 (m1) rfl rfl rfl ?_
      refine V_eqB d_X9_alone_5 (fun h5 => ?_) (fun q => (bTF q (c0)).elim)
      refine V_ki d_X9_alone_34 ?_
      exact V_iret d_X9_alone_36 rfl (by first | rfl | simp_all) rfl
  | true =>
    cases c1 : inR i (nI 0) (nI 5) with
    | false =>
      refine ⟨-2, ?_, ?_⟩
      · intro S h
        obtain ⟨⟨hsz, hbs⟩, hcn, hmt, hhc, hhm, hsh, hfd⟩ := h
        refine ⟨S, ?_, Ag.rf⟩
        refine Rn_of hp_X8_alone [some (.ref (gB G + 0)), some (.int a), some (.int i), some (.int j)] rfl (Nat.le_of_ble_eq_true rfl) (Nat.le_of_ble_eq_true rfl) ?_
        refine V_al0 d_X8_alone_0 ?_
        refine V_getR d_X8_alone_1 rfl rfl (by decide) rfl ?_
        refine V_il1 d_X8_alone_4 ?_
        refine U_cv1 d_X8_alone_5 (c_X4_isTold hcn.2.1 hN8) rfl rfl rfl ?_
        refine V_eqB d_X8_alone_8 (fun q => (bTF (c0) q).elim) (fun h8 => ?_)
        refine V_il2 d_X8_alone_11 ?_
        refine U_cs1 d_X8_alone_12 (c_X8_isShed) rfl ?_
        refine V_eqB d_X8_alone_15 (fun h15 => ?_) (fun q => (bTF q (c1)).elim)
        refine V_ki d_X8_alone_27 ?_
        exact V_iret d_X8_alone_29 rfl (by first | rfl | simp_all) rfl
      · intro S h
        obtain ⟨⟨hsz, hbs⟩, hcn, hmt, hhc, hhm, hsh, hfd⟩ := h
        obtain ⟨S1, m1, m2, m3⟩ := c_X9_isNight (G := G) (v := a) hmt hx
        refine ⟨S1, ?_, PQ_M m3⟩
        refine Rn_of hp_X9_alone [some (.ref (gB G + 22)), some (.int a), some (.int i), some (.int j)] rfl (Nat.le_of_ble_eq_true rfl) (Nat.le_of_ble_eq_true rfl) ?_
        refine V_al0 d_X9_alone_0 ?_
        refine V_il1 d_X9_alone_1 ?_
        refine U_cv1 d_X9_alone_2 (m1) rfl rfl rfl ?_
        refine V_eqB d_X9_alone_5 (fun q => (bTF (c0) q).elim) (fun h5 => ?_)
        refine V_il2 d_X9_alone_8 ?_
        refine U_cs1 d_X9_alone_9 (c_X9_isShed) rfl ?_
        refine V_eqB d_X9_alone_12 (fun h12 => ?_) (fun q => (bTF q (c1)).elim)
        refine V_ki d_X9_alone_34 ?_
        exact V_iret d_X9_alone_36 rfl (by first | rfl | simp_all) rfl
    | true =>
      cases c2 : inR j (nI 0) (nI 1) with
      | false =>
        refine ⟨-2, ?_, ?_⟩
        · intro S h
          obtain ⟨⟨hsz, hbs⟩, hcn, hmt, hhc, hhm, hsh, hfd⟩ := h
          refine ⟨S, ?_, Ag.rf⟩
          refine Rn_of hp_X8_alone [some (.ref (gB G + 0)), some (.int a), some (.int i), some (.int j)] rfl (Nat.le_of_ble_eq_true rfl) (Nat.le_of_ble_eq_true rfl) ?_
          refine V_al0 d_X8_alone_0 ?_
          refine V_getR d_X8_alone_1 rfl rfl (by decide) rfl ?_
          refine V_il1 d_X8_alone_4 ?_
          refine U_cv1 d_X8_alone_5 (c_X4_isTold hcn.2.1 hN8) rfl rfl rfl ?_
          refine V_eqB d_X8_alone_8 (fun q => (bTF (c0) q).elim) (fun h8 => ?_)
          refine V_il2 d_X8_alone_11 ?_
          refine U_cs1 d_X8_alone_12 (c_X8_isShed) rfl ?_
          refine V_eqB d_X8_alone_15 (fun q => (bTF (c1) q).elim) (fun h15 => ?_)
          refine V_il3 d_X8_alone_18 ?_
          refine V_ki d_X8_alone_19 ?_
          refine V_ki d_X8_alone_20 ?_
          refine U_cs3 d_X8_alone_21 (c_X8_within) rfl ?_
          refine V_neB d_X8_alone_24 (fun q => (bTF q (c2)).elim) (fun h24 => ?_)
          refine V_ki d_X8_alone_27 ?_
          exact V_iret d_X8_alone_29 rfl (by first | rfl | simp_all) rfl
        · intro S h
          obtain ⟨⟨hsz, hbs⟩, hcn, hmt, hhc, hhm, hsh, hfd⟩ := h
          obtain ⟨S1, m1, m2, m3⟩ := c_X9_isNight (G := G) (v := a) hmt hx
          refine ⟨S1, ?_, PQ_M m3⟩
          refine Rn_of hp_X9_alone [some (.ref (gB G + 22)), some (.int a), some (.int i), some (.int j)] rfl (Nat.le_of_ble_eq_true rfl) (Nat.le_of_ble_eq_true rfl) ?_
          refine V_al0 d_X9_alone_0 ?_
          refine V_il1 d_X9_alone_1 ?_
          refine U_cv1 d_X9_alone_2 (m1) rfl rfl rfl ?_
          refine V_eqB d_X9_alone_5 (fun q => (bTF (c0) q).elim) (fun h5 => ?_)
          refine V_il2 d_X9_alone_8 ?_
          refine U_cs1 d_X9_alone_9 (c_X9_isShed) rfl ?_
          refine V_eqB d_X9_alone_12 (fun q => (bTF (c1) q).elim) (fun h12 => ?_)
          refine V_il3 d_X9_alone_15 ?_
          refine V_ki d_X9_alone_16 ?_
          refine V_ki d_X9_alone_17 ?_
          refine U_cs3 d_X9_alone_18 (c_X9_in) rfl ?_
          refine V_eqB d_X9_alone_21 (fun h21 => ?_) (fun q => (bTF q (c2)).elim)
          refine V_ki d_X9_alone_34 ?_
          exact V_iret d_X9_alone_36 rfl (by first | rfl | simp_all) rfl
      | true =>
        obtain ⟨n, hn, rfl⟩ := tolB_ex (by omega) c0
        obtain ⟨i, hi, rfl⟩ := inR_ex (by decide) c1
        obtain ⟨j, hj, rfl⟩ := inR_ex (by decide) c2
        exact ⟨_, g8_alone hx hB hn hi hj, g9_alone hx hB hn hi hj⟩
set_option maxRecDepth 100000 in
theorem g8_steals {G : Gm} {b : Nat → Nat} {sz : Nat} {ft : Int32} {N : List (List Nat)} {w wy : Nat → Nat} {lk nd : Nat} {n i m : Nat} (hx : TXT b sz ft N) (hB : HB w wy lk nd) (hn : n < N.length) (hi : i ≤ 5) (hm : m ≤ 60 - nd) : EX G M_X8_steals [.ref (gB G + 0), .int (nI n), .int (nI i), .int (nI m)] (some (.int (nI (hh w wy lk nd (ni N n) i m)))) b sz ft N w wy lk nd := by
  intro S h
  obtain ⟨⟨hsz, hbs⟩, hcn, hmt, hhc, hhm, hsh, hfd⟩ := h
  have hN := PR_wf hx.2.2
  have hN8 := hN.1
  obtain ⟨l1, l2⟩ := hB.2.2.1
  obtain ⟨n1, n2⟩ := hB.2.2.2
  have c0 : tolB (nI n) N.length = true := tolB_nI (by omega) hn
  have c1 : inR (nI i) (nI 0) (nI 5) = true := inR_T (by omega) (by decide)
  have c2 : inR (nI m) (nI 0) (nI (60 - nd)) = true := inR_T (by omega) (by omega)
  refine ⟨S, ?_, Ag.rf⟩
  refine Rn_of hp_X8_steals [some (.ref (gB G + 0)), some (.int (nI n)), some (.int (nI i)), some (.int (nI m))] rfl (Nat.le_of_ble_eq_true rfl) (Nat.le_of_ble_eq_true rfl) ?_
  refine V_al0 d_X8_steals_0 ?_
  refine V_getR d_X8_steals_1 rfl rfl (by decide) rfl ?_
  refine V_il1 d_X8_steals_4 ?_
  refine U_cv1 d_X8_steals_5 (c_X4_isTold hcn.2.1 hN8) rfl rfl rfl ?_
  refine V_eqB d_X8_steals_8 (fun q => (bTF (c0) q).elim) (fun h8 => ?_)
  refine V_il2 d_X8_steals_11 ?_
  refine U_cs1 d_X8_steals_12 (c_X8_isShed) rfl ?_
  refine V_eqB d_X8_steals_15 (fun q => (bTF (c1) q).elim) (fun h15 => ?_)
  refine V_il3 d_X8_steals_18 ?_
  refine V_ki d_X8_steals_19 ?_
  refine V_ki d_X8_steals_20 ?_
  refine V_al0 d_X8_steals_22 ?_
  refine V_getR d_X8_steals_23 rfl rfl (by decide) rfl ?_
  refine V_getIe d_X8_steals_26 rfl rfl (by decide) (hhc.2.2.2) ?_
  refine V_isubN d_X8_steals_29 (by omega) ?_
  refine U_cs3 d_X8_steals_30 (c_X8_within) rfl ?_
  refine V_neB d_X8_steals_33 (fun h33 => ?_) (fun q => (bTF (c2) q).elim)
  refine V_al0 d_X8_steals_39 ?_
  refine V_getR d_X8_steals_40 rfl rfl (by decide) rfl ?_
  refine V_il2 d_X8_steals_43 ?_
  refine V_il3 d_X8_steals_44 ?_
  refine V_al0 d_X8_steals_45 ?_
  refine V_getR d_X8_steals_46 rfl rfl (by decide) rfl ?_
  refine V_il1 d_X8_steals_49 ?_
  refine V_il2 d_X8_steals_50 ?_
  refine U_cv2 d_X8_steals_51 (c_X7_comesTo hhc hB hcn hN hn (by omega)) rfl rfl rfl ?_
  refine U_cv3 d_X8_steals_54 (c_X6_haul hhc hB (by omega) (by omega)) rfl rfl rfl ?_
  exact V_iret d_X8_steals_57 rfl (by first | rfl | simp_all) rfl
set_option maxRecDepth 100000 in
theorem g9_steals {G : Gm} {b : Nat → Nat} {sz : Nat} {ft : Int32} {N : List (List Nat)} {w wy : Nat → Nat} {lk nd : Nat} {n i m : Nat} (hx : TXT b sz ft N) (hB : HB w wy lk nd) (hn : n < N.length) (hi : i ≤ 5) (hm : m ≤ 60 - nd) : EX G M_X9_steals [.ref (gB G + 22), .int (nI n), .int (nI i), .int (nI m)] (some (.int (nI (hh w wy lk nd (ni N n) i m)))) b sz ft N w wy lk nd := by
  intro S h
  obtain ⟨⟨hsz, hbs⟩, hcn, hmt, hhc, hhm, hsh, hfd⟩ := h
  have hN := PR_wf hx.2.2
  have hN8 := hN.1
  obtain ⟨l1, l2⟩ := hB.2.2.1
  obtain ⟨n1, n2⟩ := hB.2.2.2
  have c0 : tolB (nI n) N.length = true := tolB_nI (by omega) hn
  have c1 : inR (nI i) (nI 0) (nI 5) = true := inR_T (by omega) (by decide)
  have c2 : inR (nI m) (nI 0) (nI (60 - nd)) = true := inR_T (by omega) (by omega)
  obtain ⟨S1, m1, m2, m3⟩ := c_X9_isNight (G := G) (v := nI n) hmt hx
  have hhm1 := hhm.ag m3 (fun _ => rfl) (fun _ => rfl) rfl rfl
  refine ⟨S1, ?_, PQ_M m3⟩
  refine Rn_of hp_X9_steals [some (.ref (gB G + 22)), some (.int (nI n)), some (.int (nI i)), some (.int (nI m))] rfl (Nat.le_of_ble_eq_true rfl) (Nat.le_of_ble_eq_true rfl) ?_
  refine V_al0 d_X9_steals_0 ?_
  refine V_il1 d_X9_steals_1 ?_
  refine U_cv1 d_X9_steals_2 (m1) rfl rfl rfl ?_
  refine V_eqB d_X9_steals_5 (fun q => (bTF (c0) q).elim) (fun h5 => ?_)
  refine V_il2 d_X9_steals_8 ?_
  refine U_cs1 d_X9_steals_9 (c_X9_isShed) rfl ?_
  refine V_eqB d_X9_steals_12 (fun q => (bTF (c1) q).elim) (fun h12 => ?_)
  refine V_il3 d_X9_steals_15 ?_
  refine V_ki d_X9_steals_16 ?_
  refine V_ki d_X9_steals_17 ?_
  refine V_al0 d_X9_steals_19 ?_
  refine V_getIe d_X9_steals_20 rfl rfl (by decide) (hhm1.2.2.2) ?_
  refine V_isubN d_X9_steals_23 (by omega) ?_
  refine U_cs3 d_X9_steals_24 (c_X9_in) rfl ?_
  refine V_eqB d_X9_steals_27 (fun q => (bTF (c2) q).elim) (fun h27 => ?_)
  refine V_al0 d_X9_steals_30 ?_
  refine V_il1 d_X9_steals_31 ?_
  refine V_il2 d_X9_steals_32 ?_
  refine V_il3 d_X9_steals_33 ?_
  refine U_cv3 d_X9_steals_34 (c_X9_stealsOf hhm1 hB m2 hN hn (by omega) (by omega)) rfl rfl rfl ?_
  refine V_goto d_X9_steals_37 ?_
  exact V_iret d_X9_steals_42 rfl (by first | rfl | simp_all) rfl
set_option maxRecDepth 100000 in
theorem q_steals {G : Gm} {b : Nat → Nat} {sz : Nat} {ft : Int32} {N : List (List Nat)} {w wy : Nat → Nat} {lk nd : Nat} {a i m : Int32} (hx : TXT b sz ft N) (hB : HB w wy lk nd) : ∃ v : Int32, EX G M_X8_steals [.ref (gB G + 0), .int a, .int i, .int m] (some (.int v)) b sz ft N w wy lk nd ∧ EX G M_X9_steals [.ref (gB G + 22), .int a, .int i, .int m] (some (.int v)) b sz ft N w wy lk nd := by
  have hN := PR_wf hx.2.2
  have hN8 := hN.1
  obtain ⟨l1, l2⟩ := hB.2.2.1
  obtain ⟨n1, n2⟩ := hB.2.2.2
  cases c0 : tolB a N.length with
  | false =>
    refine ⟨-2, ?_, ?_⟩
    · intro S h
      obtain ⟨⟨hsz, hbs⟩, hcn, hmt, hhc, hhm, hsh, hfd⟩ := h
      refine ⟨S, ?_, Ag.rf⟩
      refine Rn_of hp_X8_steals [some (.ref (gB G + 0)), some (.int a), some (.int i), some (.int m)] rfl (Nat.le_of_ble_eq_true rfl) (Nat.le_of_ble_eq_true rfl) ?_
      refine V_al0 d_X8_steals_0 ?_
      refine V_getR d_X8_steals_1 rfl rfl (by decide) rfl ?_
      refine V_il1 d_X8_steals_4 ?_
      refine U_cv1 d_X8_steals_5 (c_X4_isTold hcn.2.1 hN8) rfl rfl rfl ?_
      refine V_eqB d_X8_steals_8 (fun h8 => ?_) (fun q => (bTF q (c0)).elim)
      refine V_ki d_X8_steals_36 ?_
      exact V_iret d_X8_steals_38 rfl (by first | rfl | simp_all) rfl
    · intro S h
      obtain ⟨⟨hsz, hbs⟩, hcn, hmt, hhc, hhm, hsh, hfd⟩ := h
      obtain ⟨S1, m1, m2, m3⟩ := c_X9_isNight (G := G) (v := a) hmt hx
      have hhm1 := hhm.ag m3 (fun _ => rfl) (fun _ => rfl) rfl rfl
      refine ⟨S1, ?_, PQ_M m3⟩
      refine Rn_of hp_X9_steals [some (.ref (gB G + 22)), some (.int a), some (.int i), some (.int m)] rfl (Nat.le_of_ble_eq_true rfl) (Nat.le_of_ble_eq_true rfl) ?_
      refine V_al0 d_X9_steals_0 ?_
      refine V_il1 d_X9_steals_1 ?_
      refine U_cv1 d_X9_steals_2 (m1) rfl rfl rfl ?_
      refine V_eqB d_X9_steals_5 (fun h5 => ?_) (fun q => (bTF q (c0)).elim)
      refine V_ki d_X9_steals_40 ?_
      exact V_iret d_X9_steals_42 rfl (by first | rfl | simp_all) rfl
  | true =>
    cases c1 : inR i (nI 0) (nI 5) with
    | false =>
      refine ⟨-2, ?_, ?_⟩
      · intro S h
        obtain ⟨⟨hsz, hbs⟩, hcn, hmt, hhc, hhm, hsh, hfd⟩ := h
        refine ⟨S, ?_, Ag.rf⟩
        refine Rn_of hp_X8_steals [some (.ref (gB G + 0)), some (.int a), some (.int i), some (.int m)] rfl (Nat.le_of_ble_eq_true rfl) (Nat.le_of_ble_eq_true rfl) ?_
        refine V_al0 d_X8_steals_0 ?_
        refine V_getR d_X8_steals_1 rfl rfl (by decide) rfl ?_
        refine V_il1 d_X8_steals_4 ?_
        refine U_cv1 d_X8_steals_5 (c_X4_isTold hcn.2.1 hN8) rfl rfl rfl ?_
        refine V_eqB d_X8_steals_8 (fun q => (bTF (c0) q).elim) (fun h8 => ?_)
        refine V_il2 d_X8_steals_11 ?_
        refine U_cs1 d_X8_steals_12 (c_X8_isShed) rfl ?_
        refine V_eqB d_X8_steals_15 (fun h15 => ?_) (fun q => (bTF q (c1)).elim)
        refine V_ki d_X8_steals_36 ?_
        exact V_iret d_X8_steals_38 rfl (by first | rfl | simp_all) rfl
      · intro S h
        obtain ⟨⟨hsz, hbs⟩, hcn, hmt, hhc, hhm, hsh, hfd⟩ := h
        obtain ⟨S1, m1, m2, m3⟩ := c_X9_isNight (G := G) (v := a) hmt hx
        have hhm1 := hhm.ag m3 (fun _ => rfl) (fun _ => rfl) rfl rfl
        refine ⟨S1, ?_, PQ_M m3⟩
        refine Rn_of hp_X9_steals [some (.ref (gB G + 22)), some (.int a), some (.int i), some (.int m)] rfl (Nat.le_of_ble_eq_true rfl) (Nat.le_of_ble_eq_true rfl) ?_
        refine V_al0 d_X9_steals_0 ?_
        refine V_il1 d_X9_steals_1 ?_
        refine U_cv1 d_X9_steals_2 (m1) rfl rfl rfl ?_
        refine V_eqB d_X9_steals_5 (fun q => (bTF (c0) q).elim) (fun h5 => ?_)
        refine V_il2 d_X9_steals_8 ?_
        refine U_cs1 d_X9_steals_9 (c_X9_isShed) rfl ?_
        refine V_eqB d_X9_steals_12 (fun h12 => ?_) (fun q => (bTF q (c1)).elim)
        refine V_ki d_X9_steals_40 ?_
        exact V_iret d_X9_steals_42 rfl (by first | rfl | simp_all) rfl
    | true =>
      cases c2 : inR m (nI 0) (nI (60 - nd)) with
      | false =>
        refine ⟨-2, ?_, ?_⟩
        · intro S h
          obtain ⟨⟨hsz, hbs⟩, hcn, hmt, hhc, hhm, hsh, hfd⟩ := h
          refine ⟨S, ?_, Ag.rf⟩
          refine Rn_of hp_X8_steals [some (.ref (gB G + 0)), some (.int a), some (.int i), some (.int m)] rfl (Nat.le_of_ble_eq_true rfl) (Nat.le_of_ble_eq_true rfl) ?_
          refine V_al0 d_X8_steals_0 ?_
          refine V_getR d_X8_steals_1 rfl rfl (by decide) rfl ?_
          refine V_il1 d_X8_steals_4 ?_
          refine U_cv1 d_X8_steals_5 (c_X4_isTold hcn.2.1 hN8) rfl rfl rfl ?_
          refine V_eqB d_X8_steals_8 (fun q => (bTF (c0) q).elim) (fun h8 => ?_)
          refine V_il2 d_X8_steals_11 ?_
          refine U_cs1 d_X8_steals_12 (c_X8_isShed) rfl ?_
          refine V_eqB d_X8_steals_15 (fun q => (bTF (c1) q).elim) (fun h15 => ?_)
          refine V_il3 d_X8_steals_18 ?_
          refine V_ki d_X8_steals_19 ?_
          refine V_ki d_X8_steals_20 ?_
          refine V_al0 d_X8_steals_22 ?_
          refine V_getR d_X8_steals_23 rfl rfl (by decide) rfl ?_
          refine V_getIe d_X8_steals_26 rfl rfl (by decide) (hhc.2.2.2) ?_
          refine V_isubN d_X8_steals_29 (by omega) ?_
          refine U_cs3 d_X8_steals_30 (c_X8_within) rfl ?_
          refine V_neB d_X8_steals_33 (fun q => (bTF q (c2)).elim) (fun h33 => ?_)
          refine V_ki d_X8_steals_36 ?_
          exact V_iret d_X8_steals_38 rfl (by first | rfl | simp_all) rfl
        · intro S h
          obtain ⟨⟨hsz, hbs⟩, hcn, hmt, hhc, hhm, hsh, hfd⟩ := h
          obtain ⟨S1, m1, m2, m3⟩ := c_X9_isNight (G := G) (v := a) hmt hx
          have hhm1 := hhm.ag m3 (fun _ => rfl) (fun _ => rfl) rfl rfl
          refine ⟨S1, ?_, PQ_M m3⟩
          refine Rn_of hp_X9_steals [some (.ref (gB G + 22)), some (.int a), some (.int i), some (.int m)] rfl (Nat.le_of_ble_eq_true rfl) (Nat.le_of_ble_eq_true rfl) ?_
          refine V_al0 d_X9_steals_0 ?_
          refine V_il1 d_X9_steals_1 ?_
          refine U_cv1 d_X9_steals_2 (m1) rfl rfl rfl ?_
          refine V_eqB d_X9_steals_5 (fun q => (bTF (c0) q).elim) (fun h5 => ?_)
          refine V_il2 d_X9_steals_8 ?_
          refine U_cs1 d_X9_steals_9 (c_X9_isShed) rfl ?_
          refine V_eqB d_X9_steals_12 (fun q => (bTF (c1) q).elim) (fun h12 => ?_)
          refine V_il3 d_X9_steals_15 ?_
          refine V_ki d_X9_steals_16 ?_
          refine V_ki d_X9_steals_17 ?_
          refine V_al0 d_X9_steals_19 ?_
          refine V_getIe d_X9_steals_20 rfl rfl (by decide) (hhm1.2.2.2) ?_
          refine V_isubN d_X9_steals_23 (by omega) ?_
          refine U_cs3 d_X9_steals_24 (c_X9_in) rfl ?_
          refine V_eqB d_X9_steals_27 (fun h27 => ?_) (fun q => (bTF q (c2)).elim)
          refine V_ki d_X9_steals_40 ?_
          exact V_iret d_X9_steals_42 rfl (by first | rfl | simp_all) rfl
      | true =>
        obtain ⟨n, hn, rfl⟩ := tolB_ex (by omega) c0
        obtain ⟨i, hi, rfl⟩ := inR_ex (by decide) c1
        obtain ⟨m, hm, rfl⟩ := inR_ex (by omega) c2
        exact ⟨_, g8_steals hx hB hn hi hm, g9_steals hx hB hn hi hm⟩
set_option maxRecDepth 100000 in
theorem g8_next {G : Gm} {b : Nat → Nat} {sz : Nat} {ft : Int32} {N : List (List Nat)} {w wy : Nat → Nat} {lk nd : Nat} {k p i j : Nat} (hx : TXT b sz ft N) (hB : HB w wy lk nd) (hk : k ≤ N.length) (hp : p < 7) (hi : i ≤ 5) (hj : j ≤ 1) : EX G M_X8_next [.ref (gB G + 0), .int (nI k), .int (pv p), .int (nI i), .int (nI j)] (some (.long (lN (fr (ab (stN N k) p i) (be (stN N k) p) j)))) b sz ft N w wy lk nd := by
  intro S h
  obtain ⟨⟨hsz, hbs⟩, hcn, hmt, hhc, hhm, hsh, hfd⟩ := h
  have hN := PR_wf hx.2.2
  have hN8 := hN.1
  obtain ⟨l1, l2⟩ := hB.2.2.1
  obtain ⟨n1, n2⟩ := hB.2.2.2
  have c0 : inR (nI k) (nI 0) (nI N.length) = true := inR_T hk (by omega)
  have c1 : inR (pv p) (-1) (nI 5) = true := pv_in p hp
  have c2 : inR (nI i) (nI 0) (nI 5) = true := inR_T (by omega) (by decide)
  have c3 : inR (nI j) (nI 0) (nI 1) = true := inR_T (by omega) (by decide)
  obtain ⟨S1, r1, r2, r3, r4⟩ := c_X0_nextBehind (G := G) (b := i) hcn hN hk hp (by omega)
  have hpt := c_X2_part (G := G) (S := S1) (k := 12) (j := j) rfl (by decide) (by omega)
  have ej : S1.2 12 (if j = 0 then 0 else 1) = lN (fr (ab (stN N k) p i) (be (stN N k) p) j) := by
    rcases (show j = 0 ∨ j = 1 by omega) with rfl | rfl
    · exact r2
    · exact r3
  rw [ej] at hpt
  refine ⟨S1, ?_, PQ_10 r4⟩
  refine Rn_of hp_X8_next [some (.ref (gB G + 0)), some (.int (nI k)), some (.int (pv p)), some (.int (nI i)), some (.int (nI j))] rfl (Nat.le_of_ble_eq_true rfl) (Nat.le_of_ble_eq_true rfl) ?_
  refine V_il1 d_X8_next_0 ?_
  refine V_ki d_X8_next_1 ?_
  refine V_al0 d_X8_next_2 ?_
  refine V_getR d_X8_next_3 rfl rfl (by decide) rfl ?_
  refine V_getIe d_X8_next_6 rfl rfl (by decide) (hcn.2.1) ?_
  refine U_cs3 d_X8_next_9 (c_X8_within) rfl ?_
  refine V_eqB d_X8_next_12 (fun q => (bTF (c0) q).elim) (fun h12 => ?_)
  refine V_il2 d_X8_next_15 ?_
  refine V_ki d_X8_next_16 ?_
  refine V_ki d_X8_next_17 ?_
  refine U_cs3 d_X8_next_18 (c_X8_within) rfl ?_
  refine V_eqB d_X8_next_21 (fun q => (bTF (c1) q).elim) (fun h21 => ?_)
  refine V_il3 d_X8_next_24 ?_
  refine U_cs1 d_X8_next_25 (c_X8_isShed) rfl ?_
  refine V_eqB d_X8_next_28 (fun q => (bTF (c2) q).elim) (fun h28 => ?_)
  refine V_il4 d_X8_next_31 ?_
  refine V_ki d_X8_next_33 ?_
  refine V_ki d_X8_next_34 ?_
  refine U_cs3 d_X8_next_35 (c_X8_within) rfl ?_
  refine V_neB d_X8_next_38 (fun h38 => ?_) (fun q => (bTF (c3) q).elim)
  refine V_al0 d_X8_next_47 ?_
  refine V_getR d_X8_next_48 rfl rfl (by decide) rfl ?_
  refine V_il1 d_X8_next_51 ?_
  refine V_il2 d_X8_next_52 ?_
  refine V_il3 d_X8_next_53 ?_
  refine U_cv3 d_X8_next_54 (r1) rfl rfl rfl ?_
  refine V_il4 d_X8_next_57 ?_
  refine U_cv1 d_X8_next_59 (hpt) rfl rfl rfl ?_
  exact V_lret d_X8_next_62 rfl (by first | rfl | simp_all) rfl
set_option maxRecDepth 100000 in
theorem g9_next {G : Gm} {b : Nat → Nat} {sz : Nat} {ft : Int32} {N : List (List Nat)} {w wy : Nat → Nat} {lk nd : Nat} {k p i j : Nat} (hx : TXT b sz ft N) (hB : HB w wy lk nd) (hk : k ≤ N.length) (hp : p < 7) (hi : i ≤ 5) (hj : j ≤ 1) : EX G M_X9_next [.ref (gB G + 22), .int (nI k), .int (pv p), .int (nI i), .int (nI j)] (some (.long (lN (fr (ab (stN N k) p i) (be (stN N k) p) j)))) b sz ft N w wy lk nd := by
  intro S h
  obtain ⟨⟨hsz, hbs⟩, hcn, hmt, hhc, hhm, hsh, hfd⟩ := h
  have hN := PR_wf hx.2.2
  have hN8 := hN.1
  obtain ⟨l1, l2⟩ := hB.2.2.1
  obtain ⟨n1, n2⟩ := hB.2.2.2
  have c0 : inR (nI k) (nI 0) (nI N.length) = true := inR_T hk (by omega)
  have c1 : inR (pv p) (-1) (nI 5) = true := pv_in p hp
  have c2 : inR (nI i) (nI 0) (nI 5) = true := inR_T (by omega) (by decide)
  have c3 : inR (nI j) (nI 0) (nI 1) = true := inR_T (by omega) (by decide)
  obtain ⟨S1, m1, m2, m3⟩ := c_X9_faultNow (G := G) hmt hx
  refine ⟨S1, ?_, PQ_M m3⟩
  refine Rn_of hp_X9_next [some (.ref (gB G + 22)), some (.int (nI k)), some (.int (pv p)), some (.int (nI i)), some (.int (nI j)), none] rfl (Nat.le_of_ble_eq_true rfl) (Nat.le_of_ble_eq_true rfl) ?_
  refine V_al0 d_X9_next_0 ?_
  refine U_cv0 d_X9_next_1 (m1) rfl rfl rfl ?_
  refine V_is5 d_X9_next_4 rfl ?_
  refine V_il1 d_X9_next_6 ?_
  refine V_ki d_X9_next_7 ?_
  refine V_al0 d_X9_next_8 ?_
  refine V_getIe d_X9_next_9 rfl rfl (by decide) (m2.1) ?_
  refine U_cs3 d_X9_next_12 (c_X9_in) rfl ?_
  refine V_eqB d_X9_next_15 (fun q => (bTF (c0) q).elim) (fun h15 => ?_)
  refine V_il2 d_X9_next_18 ?_
  refine V_ki d_X9_next_19 ?_
  refine V_ki d_X9_next_20 ?_
  refine U_cs3 d_X9_next_21 (c_X9_in) rfl ?_
  refine V_eqB d_X9_next_24 (fun q => (bTF (c1) q).elim) (fun h24 => ?_)
  refine V_il3 d_X9_next_27 ?_
  refine U_cs1 d_X9_next_28 (c_X9_isShed) rfl ?_
  refine V_eqB d_X9_next_31 (fun q => (bTF (c2) q).elim) (fun h31 => ?_)
  refine V_il4 d_X9_next_34 ?_
  refine V_ki d_X9_next_36 ?_
  refine V_ki d_X9_next_37 ?_
  refine U_cs3 d_X9_next_38 (c_X9_in) rfl ?_
  refine V_eqB d_X9_next_41 (fun q => (bTF (c3) q).elim) (fun h41 => ?_)
  refine V_al0 d_X9_next_44 ?_
  refine V_il1 d_X9_next_45 ?_
  refine V_il2 d_X9_next_46 ?_
  refine V_il3 d_X9_next_47 ?_
  refine V_il4 d_X9_next_48 ?_
  refine U_cv4 d_X9_next_50 (c_X9_nextOf m2 hN hk hp (by omega) (by omega)) rfl rfl rfl ?_
  refine V_goto d_X9_next_53 ?_
  exact V_lret d_X9_next_61 rfl (by first | rfl | simp_all) rfl
set_option maxRecDepth 100000 in
theorem q_next {G : Gm} {b : Nat → Nat} {sz : Nat} {ft : Int32} {N : List (List Nat)} {w wy : Nat → Nat} {lk nd : Nat} {k a i j : Int32} (hx : TXT b sz ft N) (hB : HB w wy lk nd) : ∃ v : Int64, EX G M_X8_next [.ref (gB G + 0), .int k, .int a, .int i, .int j] (some (.long v)) b sz ft N w wy lk nd ∧ EX G M_X9_next [.ref (gB G + 22), .int k, .int a, .int i, .int j] (some (.long v)) b sz ft N w wy lk nd := by
  have hN := PR_wf hx.2.2
  have hN8 := hN.1
  obtain ⟨l1, l2⟩ := hB.2.2.1
  obtain ⟨n1, n2⟩ := hB.2.2.2
  cases c0 : inR k (nI 0) (nI N.length) with
  | false =>
    refine ⟨(-9223372036854775808 : Int64) - (-2 : Int32).toInt64, ?_, ?_⟩
    · intro S h
      obtain ⟨⟨hsz, hbs⟩, hcn, hmt, hhc, hhm, hsh, hfd⟩ := h
      refine ⟨S, ?_, Ag.rf⟩
      refine Rn_of hp_X8_next [some (.ref (gB G + 0)), some (.int k), some (.int a), some (.int i), some (.int j)] rfl (Nat.le_of_ble_eq_true rfl) (Nat.le_of_ble_eq_true rfl) ?_
      refine V_il1 d_X8_next_0 ?_
      refine V_ki d_X8_next_1 ?_
      refine V_al0 d_X8_next_2 ?_
      refine V_getR d_X8_next_3 rfl rfl (by decide) rfl ?_
      refine V_getIe d_X8_next_6 rfl rfl (by decide) (hcn.2.1) ?_
      refine U_cs3 d_X8_next_9 (c_X8_within) rfl ?_
      refine V_eqB d_X8_next_12 (fun h12 => ?_) (fun q => (bTF q (c0)).elim)
      refine V_ki d_X8_next_41 ?_
      refine U_cs1 d_X8_next_43 (c_X8_refusal) rfl ?_
      exact V_lret d_X8_next_46 rfl (by first | rfl | simp_all) rfl
    · intro S h
      obtain ⟨⟨hsz, hbs⟩, hcn, hmt, hhc, hhm, hsh, hfd⟩ := h
      obtain ⟨S1, m1, m2, m3⟩ := c_X9_faultNow (G := G) hmt hx
      refine ⟨S1, ?_, PQ_M m3⟩
      refine Rn_of hp_X9_next [some (.ref (gB G + 22)), some (.int k), some (.int a), some (.int i), some (.int j), none] rfl (Nat.le_of_ble_eq_true rfl) (Nat.le_of_ble_eq_true rfl) ?_
      refine V_al0 d_X9_next_0 ?_
      refine U_cv0 d_X9_next_1 (m1) rfl rfl rfl ?_
      refine V_is5 d_X9_next_4 rfl ?_
      refine V_il1 d_X9_next_6 ?_
      refine V_ki d_X9_next_7 ?_
      refine V_al0 d_X9_next_8 ?_
      refine V_getIe d_X9_next_9 rfl rfl (by decide) (m2.1) ?_
      refine U_cs3 d_X9_next_12 (c_X9_in) rfl ?_
      refine V_eqB d_X9_next_15 (fun h15 => ?_) (fun q => (bTF q (c0)).elim)
      refine V_ki d_X9_next_56 ?_
      refine U_cs1 d_X9_next_58 (c_X9_no) rfl ?_
      exact V_lret d_X9_next_61 rfl (by first | rfl | simp_all) rfl
  | true =>
    cases c1 : inR a (-1) (nI 5) with
    | false =>
      refine ⟨(-9223372036854775808 : Int64) - (-2 : Int32).toInt64, ?_, ?_⟩
      · intro S h
        obtain ⟨⟨hsz, hbs⟩, hcn, hmt, hhc, hhm, hsh, hfd⟩ := h
        refine ⟨S, ?_, Ag.rf⟩
        refine Rn_of hp_X8_next [some (.ref (gB G + 0)), some (.int k), some (.int a), some (.int i), some (.int j)] rfl (Nat.le_of_ble_eq_true rfl) (Nat.le_of_ble_eq_true rfl) ?_
        refine V_il1 d_X8_next_0 ?_
        refine V_ki d_X8_next_1 ?_
        refine V_al0 d_X8_next_2 ?_
        refine V_getR d_X8_next_3 rfl rfl (by decide) rfl ?_
        refine V_getIe d_X8_next_6 rfl rfl (by decide) (hcn.2.1) ?_
        refine U_cs3 d_X8_next_9 (c_X8_within) rfl ?_
        refine V_eqB d_X8_next_12 (fun q => (bTF (c0) q).elim) (fun h12 => ?_)
        refine V_il2 d_X8_next_15 ?_
        refine V_ki d_X8_next_16 ?_
        refine V_ki d_X8_next_17 ?_
        refine U_cs3 d_X8_next_18 (c_X8_within) rfl ?_
        refine V_eqB d_X8_next_21 (fun h21 => ?_) (fun q => (bTF q (c1)).elim)
        refine V_ki d_X8_next_41 ?_
        refine U_cs1 d_X8_next_43 (c_X8_refusal) rfl ?_
        exact V_lret d_X8_next_46 rfl (by first | rfl | simp_all) rfl
      · intro S h
        obtain ⟨⟨hsz, hbs⟩, hcn, hmt, hhc, hhm, hsh, hfd⟩ := h
        obtain ⟨S1, m1, m2, m3⟩ := c_X9_faultNow (G := G) hmt hx
        refine ⟨S1, ?_, PQ_M m3⟩
        refine Rn_of hp_X9_next [some (.ref (gB G + 22)), some (.int k), some (.int a), some (.int i), some (.int j), none] rfl (Nat.le_of_ble_eq_true rfl) (Nat.le_of_ble_eq_true rfl) ?_
        refine V_al0 d_X9_next_0 ?_
        refine U_cv0 d_X9_next_1 (m1) rfl rfl rfl ?_
        refine V_is5 d_X9_next_4 rfl ?_
        refine V_il1 d_X9_next_6 ?_
        refine V_ki d_X9_next_7 ?_
        refine V_al0 d_X9_next_8 ?_
        refine V_getIe d_X9_next_9 rfl rfl (by decide) (m2.1) ?_
        refine U_cs3 d_X9_next_12 (c_X9_in) rfl ?_
        refine V_eqB d_X9_next_15 (fun q => (bTF (c0) q).elim) (fun h15 => ?_)
        refine V_il2 d_X9_next_18 ?_
        refine V_ki d_X9_next_19 ?_
        refine V_ki d_X9_next_20 ?_
        refine U_cs3 d_X9_next_21 (c_X9_in) rfl ?_
        refine V_eqB d_X9_next_24 (fun h24 => ?_) (fun q => (bTF q (c1)).elim)
        refine V_ki d_X9_next_56 ?_
        refine U_cs1 d_X9_next_58 (c_X9_no) rfl ?_
        exact V_lret d_X9_next_61 rfl (by first | rfl | simp_all) rfl
    | true =>
      cases c2 : inR i (nI 0) (nI 5) with
      | false =>
        refine ⟨(-9223372036854775808 : Int64) - (-2 : Int32).toInt64, ?_, ?_⟩
        · intro S h
          obtain ⟨⟨hsz, hbs⟩, hcn, hmt, hhc, hhm, hsh, hfd⟩ := h
          refine ⟨S, ?_, Ag.rf⟩
          refine Rn_of hp_X8_next [some (.ref (gB G + 0)), some (.int k), some (.int a), some (.int i), some (.int j)] rfl (Nat.le_of_ble_eq_true rfl) (Nat.le_of_ble_eq_true rfl) ?_
          refine V_il1 d_X8_next_0 ?_
          refine V_ki d_X8_next_1 ?_
          refine V_al0 d_X8_next_2 ?_
          refine V_getR d_X8_next_3 rfl rfl (by decide) rfl ?_
          refine V_getIe d_X8_next_6 rfl rfl (by decide) (hcn.2.1) ?_
          refine U_cs3 d_X8_next_9 (c_X8_within) rfl ?_
          refine V_eqB d_X8_next_12 (fun q => (bTF (c0) q).elim) (fun h12 => ?_)
          refine V_il2 d_X8_next_15 ?_
          refine V_ki d_X8_next_16 ?_
          refine V_ki d_X8_next_17 ?_
          refine U_cs3 d_X8_next_18 (c_X8_within) rfl ?_
          refine V_eqB d_X8_next_21 (fun q => (bTF (c1) q).elim) (fun h21 => ?_)
          refine V_il3 d_X8_next_24 ?_
          refine U_cs1 d_X8_next_25 (c_X8_isShed) rfl ?_
          refine V_eqB d_X8_next_28 (fun h28 => ?_) (fun q => (bTF q (c2)).elim)
          refine V_ki d_X8_next_41 ?_
          refine U_cs1 d_X8_next_43 (c_X8_refusal) rfl ?_
          exact V_lret d_X8_next_46 rfl (by first | rfl | simp_all) rfl
        · intro S h
          obtain ⟨⟨hsz, hbs⟩, hcn, hmt, hhc, hhm, hsh, hfd⟩ := h
          obtain ⟨S1, m1, m2, m3⟩ := c_X9_faultNow (G := G) hmt hx
          refine ⟨S1, ?_, PQ_M m3⟩
          refine Rn_of hp_X9_next [some (.ref (gB G + 22)), some (.int k), some (.int a), some (.int i), some (.int j), none] rfl (Nat.le_of_ble_eq_true rfl) (Nat.le_of_ble_eq_true rfl) ?_
          refine V_al0 d_X9_next_0 ?_
          refine U_cv0 d_X9_next_1 (m1) rfl rfl rfl ?_
          refine V_is5 d_X9_next_4 rfl ?_
          refine V_il1 d_X9_next_6 ?_
          refine V_ki d_X9_next_7 ?_
          refine V_al0 d_X9_next_8 ?_
          refine V_getIe d_X9_next_9 rfl rfl (by decide) (m2.1) ?_
          refine U_cs3 d_X9_next_12 (c_X9_in) rfl ?_
          refine V_eqB d_X9_next_15 (fun q => (bTF (c0) q).elim) (fun h15 => ?_)
          refine V_il2 d_X9_next_18 ?_
          refine V_ki d_X9_next_19 ?_
          refine V_ki d_X9_next_20 ?_
          refine U_cs3 d_X9_next_21 (c_X9_in) rfl ?_
          refine V_eqB d_X9_next_24 (fun q => (bTF (c1) q).elim) (fun h24 => ?_)
          refine V_il3 d_X9_next_27 ?_
          refine U_cs1 d_X9_next_28 (c_X9_isShed) rfl ?_
          refine V_eqB d_X9_next_31 (fun h31 => ?_) (fun q => (bTF q (c2)).elim)
          refine V_ki d_X9_next_56 ?_
          refine U_cs1 d_X9_next_58 (c_X9_no) rfl ?_
          exact V_lret d_X9_next_61 rfl (by first | rfl | simp_all) rfl
      | true =>
        cases c3 : inR j (nI 0) (nI 1) with
        | false =>
          refine ⟨(-9223372036854775808 : Int64) - (-2 : Int32).toInt64, ?_, ?_⟩
          · intro S h
            obtain ⟨⟨hsz, hbs⟩, hcn, hmt, hhc, hhm, hsh, hfd⟩ := h
            refine ⟨S, ?_, Ag.rf⟩
            refine Rn_of hp_X8_next [some (.ref (gB G + 0)), some (.int k), some (.int a), some (.int i), some (.int j)] rfl (Nat.le_of_ble_eq_true rfl) (Nat.le_of_ble_eq_true rfl) ?_
            refine V_il1 d_X8_next_0 ?_
            refine V_ki d_X8_next_1 ?_
            refine V_al0 d_X8_next_2 ?_
            refine V_getR d_X8_next_3 rfl rfl (by decide) rfl ?_
            refine V_getIe d_X8_next_6 rfl rfl (by decide) (hcn.2.1) ?_
            refine U_cs3 d_X8_next_9 (c_X8_within) rfl ?_
            refine V_eqB d_X8_next_12 (fun q => (bTF (c0) q).elim) (fun h12 => ?_)
            refine V_il2 d_X8_next_15 ?_
            refine V_ki d_X8_next_16 ?_
            refine V_ki d_X8_next_17 ?_
            refine U_cs3 d_X8_next_18 (c_X8_within) rfl ?_
            refine V_eqB d_X8_next_21 (fun q => (bTF (c1) q).elim) (fun h21 => ?_)
            refine V_il3 d_X8_next_24 ?_
            refine U_cs1 d_X8_next_25 (c_X8_isShed) rfl ?_
            refine V_eqB d_X8_next_28 (fun q => (bTF (c2) q).elim) (fun h28 => ?_)
            refine V_il4 d_X8_next_31 ?_
            refine V_ki d_X8_next_33 ?_
            refine V_ki d_X8_next_34 ?_
            refine U_cs3 d_X8_next_35 (c_X8_within) rfl ?_
            refine V_neB d_X8_next_38 (fun q => (bTF q (c3)).elim) (fun h38 => ?_)
            refine V_ki d_X8_next_41 ?_
            refine U_cs1 d_X8_next_43 (c_X8_refusal) rfl ?_
            exact V_lret d_X8_next_46 rfl (by first | rfl | simp_all) rfl
          · intro S h
            obtain ⟨⟨hsz, hbs⟩, hcn, hmt, hhc, hhm, hsh, hfd⟩ := h
            obtain ⟨S1, m1, m2, m3⟩ := c_X9_faultNow (G := G) hmt hx
            refine ⟨S1, ?_, PQ_M m3⟩
            refine Rn_of hp_X9_next [some (.ref (gB G + 22)), some (.int k), some (.int a), some (.int i), some (.int j), none] rfl (Nat.le_of_ble_eq_true rfl) (Nat.le_of_ble_eq_true rfl) ?_
            refine V_al0 d_X9_next_0 ?_
            refine U_cv0 d_X9_next_1 (m1) rfl rfl rfl ?_
            refine V_is5 d_X9_next_4 rfl ?_
            refine V_il1 d_X9_next_6 ?_
            refine V_ki d_X9_next_7 ?_
            refine V_al0 d_X9_next_8 ?_
            refine V_getIe d_X9_next_9 rfl rfl (by decide) (m2.1) ?_
            refine U_cs3 d_X9_next_12 (c_X9_in) rfl ?_
            refine V_eqB d_X9_next_15 (fun q => (bTF (c0) q).elim) (fun h15 => ?_)
            refine V_il2 d_X9_next_18 ?_
            refine V_ki d_X9_next_19 ?_
            refine V_ki d_X9_next_20 ?_
            refine U_cs3 d_X9_next_21 (c_X9_in) rfl ?_
            refine V_eqB d_X9_next_24 (fun q => (bTF (c1) q).elim) (fun h24 => ?_)
            refine V_il3 d_X9_next_27 ?_
            refine U_cs1 d_X9_next_28 (c_X9_isShed) rfl ?_
            refine V_eqB d_X9_next_31 (fun q => (bTF (c2) q).elim) (fun h31 => ?_)
            refine V_il4 d_X9_next_34 ?_
            refine V_ki d_X9_next_36 ?_
            refine V_ki d_X9_next_37 ?_
            refine U_cs3 d_X9_next_38 (c_X9_in) rfl ?_
            refine V_eqB d_X9_next_41 (fun h41 => ?_) (fun q => (bTF q (c3)).elim)
            refine V_ki d_X9_next_56 ?_
            refine U_cs1 d_X9_next_58 (c_X9_no) rfl ?_
            exact V_lret d_X9_next_61 rfl (by first | rfl | simp_all) rfl
        | true =>
          obtain ⟨k, hk, rfl⟩ := inR_ex (by omega) c0
          obtain ⟨p, hp, rfl⟩ := pv_ex c1
          obtain ⟨i, hi, rfl⟩ := inR_ex (by decide) c2
          obtain ⟨j, hj, rfl⟩ := inR_ex (by decide) c3
          exact ⟨_, g8_next hx hB hk hp hi hj, g9_next hx hB hk hp hi hj⟩
set_option maxRecDepth 100000 in
theorem g8_likely {G : Gm} {b : Nat → Nat} {sz : Nat} {ft : Int32} {N : List (List Nat)} {w wy : Nat → Nat} {lk nd : Nat} {n j : Nat} (hx : TXT b sz ft N) (hB : HB w wy lk nd) (hn : n < N.length) (hj : j ≤ 1) : EX G M_X8_likely [.ref (gB G + 0), .int (nI n), .int (nI j)] (some (.long (lN (if j = 0 then (lkS (stN N n) (ni N n) 6 (1, 1)).1 else (lkS (stN N n) (ni N n) 6 (1, 1)).2)))) b sz ft N w wy lk nd := by
  intro S h
  obtain ⟨⟨hsz, hbs⟩, hcn, hmt, hhc, hhm, hsh, hfd⟩ := h
  have hN := PR_wf hx.2.2
  have hN8 := hN.1
  obtain ⟨l1, l2⟩ := hB.2.2.1
  obtain ⟨n1, n2⟩ := hB.2.2.2
  have c0 : tolB (nI n) N.length = true := tolB_nI (by omega) hn
  have c1 : inR (nI j) (nI 0) (nI 1) = true := inR_T (by omega) (by decide)
  obtain ⟨S1, r1, r2, r3, r4⟩ := c_X0_likelihood (G := G) hcn hN hn
  have hpt := c_X2_part (G := G) (S := S1) (k := 12) (j := j) rfl (by decide) (by omega)
  have ej : S1.2 12 (if j = 0 then 0 else 1) = lN (if j = 0 then (lkS (stN N n) (ni N n) 6 (1, 1)).1 else (lkS (stN N n) (ni N n) 6 (1, 1)).2) := by
    rcases (show j = 0 ∨ j = 1 by omega) with rfl | rfl
    · exact r2
    · exact r3
  rw [ej] at hpt
  refine ⟨S1, ?_, PQ_10 r4⟩
  refine Rn_of hp_X8_likely [some (.ref (gB G + 0)), some (.int (nI n)), some (.int (nI j))] rfl (Nat.le_of_ble_eq_true rfl) (Nat.le_of_ble_eq_true rfl) ?_
  refine V_al0 d_X8_likely_0 ?_
  refine V_getR d_X8_likely_1 rfl rfl (by decide) rfl ?_
  refine V_il1 d_X8_likely_4 ?_
  refine U_cv1 d_X8_likely_5 (c_X4_isTold hcn.2.1 hN8) rfl rfl rfl ?_
  refine V_eqB d_X8_likely_8 (fun q => (bTF (c0) q).elim) (fun h8 => ?_)
  refine V_il2 d_X8_likely_11 ?_
  refine V_ki d_X8_likely_12 ?_
  refine V_ki d_X8_likely_13 ?_
  refine U_cs3 d_X8_likely_14 (c_X8_within) rfl ?_
  refine V_neB d_X8_likely_17 (fun h17 => ?_) (fun q => (bTF (c1) q).elim)
  refine V_al0 d_X8_likely_26 ?_
  refine V_getR d_X8_likely_27 rfl rfl (by decide) rfl ?_
  refine V_il1 d_X8_likely_30 ?_
  refine U_cv1 d_X8_likely_31 (r1) rfl rfl rfl ?_
  refine V_il2 d_X8_likely_34 ?_
  refine U_cv1 d_X8_likely_35 (hpt) rfl rfl rfl ?_
  exact V_lret d_X8_likely_38 rfl (by first | rfl | simp_all) rfl
set_option maxRecDepth 100000 in
theorem g9_likely {G : Gm} {b : Nat → Nat} {sz : Nat} {ft : Int32} {N : List (List Nat)} {w wy : Nat → Nat} {lk nd : Nat} {n j : Nat} (hx : TXT b sz ft N) (hB : HB w wy lk nd) (hn : n < N.length) (hj : j ≤ 1) : EX G M_X9_likely [.ref (gB G + 22), .int (nI n), .int (nI j)] (some (.long (lN (if j = 0 then (lkS (stN N n) (ni N n) 6 (1, 1)).1 else (lkS (stN N n) (ni N n) 6 (1, 1)).2)))) b sz ft N w wy lk nd := by
  intro S h
  obtain ⟨⟨hsz, hbs⟩, hcn, hmt, hhc, hhm, hsh, hfd⟩ := h
  have hN := PR_wf hx.2.2
  have hN8 := hN.1
  obtain ⟨l1, l2⟩ := hB.2.2.1
  obtain ⟨n1, n2⟩ := hB.2.2.2
  have c0 : tolB (nI n) N.length = true := tolB_nI (by omega) hn
  have c1 : inR (nI j) (nI 0) (nI 1) = true := inR_T (by omega) (by decide)
  obtain ⟨S1, m1, m2, m3⟩ := c_X9_isNight (G := G) (v := nI n) hmt hx
  refine ⟨S1, ?_, PQ_M m3⟩
  refine Rn_of hp_X9_likely [some (.ref (gB G + 22)), some (.int (nI n)), some (.int (nI j))] rfl (Nat.le_of_ble_eq_true rfl) (Nat.le_of_ble_eq_true rfl) ?_
  refine V_al0 d_X9_likely_0 ?_
  refine V_il1 d_X9_likely_1 ?_
  refine U_cv1 d_X9_likely_2 (m1) rfl rfl rfl ?_
  refine V_eqB d_X9_likely_5 (fun q => (bTF (c0) q).elim) (fun h5 => ?_)
  refine V_il2 d_X9_likely_8 ?_
  refine V_ki d_X9_likely_9 ?_
  refine V_ki d_X9_likely_10 ?_
  refine U_cs3 d_X9_likely_11 (c_X9_in) rfl ?_
  refine V_eqB d_X9_likely_14 (fun q => (bTF (c1) q).elim) (fun h14 => ?_)
  refine V_al0 d_X9_likely_17 ?_
  refine V_il1 d_X9_likely_18 ?_
  refine V_il2 d_X9_likely_19 ?_
  refine U_cv2 d_X9_likely_20 (c_X9_likelyOf m2 hN hn (by omega)) rfl rfl rfl ?_
  refine V_goto d_X9_likely_23 ?_
  exact V_lret d_X9_likely_31 rfl (by first | rfl | simp_all) rfl
set_option maxRecDepth 100000 in
theorem q_likely {G : Gm} {b : Nat → Nat} {sz : Nat} {ft : Int32} {N : List (List Nat)} {w wy : Nat → Nat} {lk nd : Nat} {a j : Int32} (hx : TXT b sz ft N) (hB : HB w wy lk nd) : ∃ v : Int64, EX G M_X8_likely [.ref (gB G + 0), .int a, .int j] (some (.long v)) b sz ft N w wy lk nd ∧ EX G M_X9_likely [.ref (gB G + 22), .int a, .int j] (some (.long v)) b sz ft N w wy lk nd := by
  have hN := PR_wf hx.2.2
  have hN8 := hN.1
  obtain ⟨l1, l2⟩ := hB.2.2.1
  obtain ⟨n1, n2⟩ := hB.2.2.2
  cases c0 : tolB a N.length with
  | false =>
    refine ⟨(-9223372036854775808 : Int64) - (-2 : Int32).toInt64, ?_, ?_⟩
    · intro S h
      obtain ⟨⟨hsz, hbs⟩, hcn, hmt, hhc, hhm, hsh, hfd⟩ := h
      refine ⟨S, ?_, Ag.rf⟩
      refine Rn_of hp_X8_likely [some (.ref (gB G + 0)), some (.int a), some (.int j)] rfl (Nat.le_of_ble_eq_true rfl) (Nat.le_of_ble_eq_true rfl) ?_
      refine V_al0 d_X8_likely_0 ?_
      refine V_getR d_X8_likely_1 rfl rfl (by decide) rfl ?_
      refine V_il1 d_X8_likely_4 ?_
      refine U_cv1 d_X8_likely_5 (c_X4_isTold hcn.2.1 hN8) rfl rfl rfl ?_
      refine V_eqB d_X8_likely_8 (fun h8 => ?_) (fun q => (bTF q (c0)).elim)
      refine V_ki d_X8_likely_20 ?_
      refine U_cs1 d_X8_likely_22 (c_X8_refusal) rfl ?_
      exact V_lret d_X8_likely_25 rfl (by first | rfl | simp_all) rfl
    · intro S h
      obtain ⟨⟨hsz, hbs⟩, hcn, hmt, hhc, hhm, hsh, hfd⟩ := h
      obtain ⟨S1, m1, m2, m3⟩ := c_X9_isNight (G := G) (v := a) hmt hx
      refine ⟨S1, ?_, PQ_M m3⟩
      refine Rn_of hp_X9_likely [some (.ref (gB G + 22)), some (.int a), some (.int j)] rfl (Nat.le_of_ble_eq_true rfl) (Nat.le_of_ble_eq_true rfl) ?_
      refine V_al0 d_X9_likely_0 ?_
      refine V_il1 d_X9_likely_1 ?_
      refine U_cv1 d_X9_likely_2 (m1) rfl rfl rfl ?_
      refine V_eqB d_X9_likely_5 (fun h5 => ?_) (fun q => (bTF q (c0)).elim)
      refine V_ki d_X9_likely_26 ?_
      refine U_cs1 d_X9_likely_28 (c_X9_no) rfl ?_
      exact V_lret d_X9_likely_31 rfl (by first | rfl | simp_all) rfl
  | true =>
    cases c1 : inR j (nI 0) (nI 1) with
    | false =>
      refine ⟨(-9223372036854775808 : Int64) - (-2 : Int32).toInt64, ?_, ?_⟩
      · intro S h
        obtain ⟨⟨hsz, hbs⟩, hcn, hmt, hhc, hhm, hsh, hfd⟩ := h
        refine ⟨S, ?_, Ag.rf⟩
        refine Rn_of hp_X8_likely [some (.ref (gB G + 0)), some (.int a), some (.int j)] rfl (Nat.le_of_ble_eq_true rfl) (Nat.le_of_ble_eq_true rfl) ?_
        refine V_al0 d_X8_likely_0 ?_
        refine V_getR d_X8_likely_1 rfl rfl (by decide) rfl ?_
        refine V_il1 d_X8_likely_4 ?_
        refine U_cv1 d_X8_likely_5 (c_X4_isTold hcn.2.1 hN8) rfl rfl rfl ?_
        refine V_eqB d_X8_likely_8 (fun q => (bTF (c0) q).elim) (fun h8 => ?_)
        refine V_il2 d_X8_likely_11 ?_
        refine V_ki d_X8_likely_12 ?_
        refine V_ki d_X8_likely_13 ?_
        refine U_cs3 d_X8_likely_14 (c_X8_within) rfl ?_
        refine V_neB d_X8_likely_17 (fun q => (bTF q (c1)).elim) (fun h17 => ?_)
        refine V_ki d_X8_likely_20 ?_
        refine U_cs1 d_X8_likely_22 (c_X8_refusal) rfl ?_
        exact V_lret d_X8_likely_25 rfl (by first | rfl | simp_all) rfl
      · intro S h
        obtain ⟨⟨hsz, hbs⟩, hcn, hmt, hhc, hhm, hsh, hfd⟩ := h
        obtain ⟨S1, m1, m2, m3⟩ := c_X9_isNight (G := G) (v := a) hmt hx
        refine ⟨S1, ?_, PQ_M m3⟩
        refine Rn_of hp_X9_likely [some (.ref (gB G + 22)), some (.int a), some (.int j)] rfl (Nat.le_of_ble_eq_true rfl) (Nat.le_of_ble_eq_true rfl) ?_
        refine V_al0 d_X9_likely_0 ?_
        refine V_il1 d_X9_likely_1 ?_
        refine U_cv1 d_X9_likely_2 (m1) rfl rfl rfl ?_
        refine V_eqB d_X9_likely_5 (fun q => (bTF (c0) q).elim) (fun h5 => ?_)
        refine V_il2 d_X9_likely_8 ?_
        refine V_ki d_X9_likely_9 ?_
        refine V_ki d_X9_likely_10 ?_
        refine U_cs3 d_X9_likely_11 (c_X9_in) rfl ?_
        refine V_eqB d_X9_likely_14 (fun h14 => ?_) (fun q => (bTF q (c1)).elim)
        refine V_ki d_X9_likely_26 ?_
        refine U_cs1 d_X9_likely_28 (c_X9_no) rfl ?_
        exact V_lret d_X9_likely_31 rfl (by first | rfl | simp_all) rfl
    | true =>
      obtain ⟨n, hn, rfl⟩ := tolB_ex (by omega) c0
      obtain ⟨j, hj, rfl⟩ := inR_ex (by decide) c1
      exact ⟨_, g8_likely hx hB hn hj, g9_likely hx hB hn hj⟩
