/-! calls that ask, on lots, dice and new rows -/
theorem m1_inN : ∀ j, j < 2 → inR (nI j) (-1) (nI 1) = true := by decide +kernel
theorem pv_inI : ∀ j, j < 6 → inR (nI j) (-1) (nI 5) = true := by decide +kernel
set_option maxRecDepth 100000 in
theorem g8_fresh {G : Gm} {b : Nat → Nat} {sz : Nat} {ft : Int32} {N : List (List Nat)} {w wy : Nat → Nat} {lk nd : Nat} {vI r : Int32} (hx : TXT b sz ft N) (hB : HB w wy lk nd) (hr : (vI = -1 ∧ r = nI (eB (stN N N.length) 6 0 6)) ∨ ∃ i, i < 6 ∧ vI = nI i ∧ r = oI (lnR (stN N N.length) (i + 1) 0 6)) : EX G M_X8_fresh [.ref (gB G + 0), .int vI] (some (.int (r))) b sz ft N w wy lk nd := by
  intro S h
  obtain ⟨⟨hsz, hbs⟩, hcn, hmt, hhc, hhm, hsh, hfd⟩ := h
  have hN := PR_wf hx.2.2
  have hN8 := hN.1
  obtain ⟨l1, l2⟩ := hB.2.2.1
  obtain ⟨n1, n2⟩ := hB.2.2.2
  have c0 : inR vI (-1) (nI 5) = true := (by rcases hr with ⟨e, _⟩ | ⟨j, hj, e, _⟩ <;> rw [e] <;> first | decide | exact pv_inI j hj)
  obtain ⟨S1, r1, r2, r3, r4⟩ := c_X0_findEndings (G := G) hcn hN
  have hf : ∀ a b, stN N N.length a b ≤ 48 := fun a b => stN_48 hN a b _ (Nat.le_refl _)
  generalize stN N N.length = f at hr r2 r3 hf
  refine ⟨S1, ?_, PQ_11 r4⟩
  rcases hr with ⟨e1, e2⟩ | ⟨i, hi, e1, e2⟩
  · subst e1; subst e2
    have hE := c_X0_endingsBehind (G := G) (set := 0) (p := 6) r2 hf r3 (by decide) (by decide)
    rw [show 6 - pcn 0 = 6 by decide] at hE
    refine Rn_of hp_X8_fresh [some (.ref (gB G + 0)), some (.int (-1))] rfl (Nat.le_of_ble_eq_true rfl) (Nat.le_of_ble_eq_true rfl) ?_
    refine V_il1 d_X8_fresh_0 ?_
    refine V_ki d_X8_fresh_1 ?_
    refine V_ki d_X8_fresh_2 ?_
    refine U_cs3 d_X8_fresh_3 (c_X8_within) rfl ?_
    refine V_neB d_X8_fresh_6 (fun h6 => ?_) (fun q => (bTF (c0) q).elim)
    refine V_al0 d_X8_fresh_12 ?_
    refine V_getR d_X8_fresh_13 rfl rfl (by decide) rfl ?_
    refine U_cv0v d_X8_fresh_16 (r1) rfl rfl rfl ?_
    refine V_il1 d_X8_fresh_19 ?_
    refine V_ki d_X8_fresh_20 ?_
    refine V_ic_ne d_X8_fresh_21 (fun q => absurd rfl q) (fun h21 => ?_)
    refine V_al0 d_X8_fresh_24 ?_
    refine V_getR d_X8_fresh_25 rfl rfl (by decide) rfl ?_
    refine V_ki d_X8_fresh_28 ?_
    refine V_ki d_X8_fresh_29 ?_
    refine U_cv2 d_X8_fresh_30 (hE) rfl rfl rfl ?_
    refine V_goto d_X8_fresh_33 ?_
    exact V_iret d_X8_fresh_44 rfl (by first | rfl | simp_all) rfl
  · subst e1; subst e2
    refine Rn_of hp_X8_fresh [some (.ref (gB G + 0)), some (.int (nI i))] rfl (Nat.le_of_ble_eq_true rfl) (Nat.le_of_ble_eq_true rfl) ?_
    refine V_il1 d_X8_fresh_0 ?_
    refine V_ki d_X8_fresh_1 ?_
    refine V_ki d_X8_fresh_2 ?_
    refine U_cs3 d_X8_fresh_3 (c_X8_within) rfl ?_
    refine V_neB d_X8_fresh_6 (fun h6 => ?_) (fun q => (bTF (c0) q).elim)
    refine V_al0 d_X8_fresh_12 ?_
    refine V_getR d_X8_fresh_13 rfl rfl (by decide) rfl ?_
    refine U_cv0v d_X8_fresh_16 (r1) rfl rfl rfl ?_
    refine V_il1 d_X8_fresh_19 ?_
    refine V_ki d_X8_fresh_20 ?_
    refine V_ic_ne d_X8_fresh_21 (fun h21 => ?_) (fun q => (nI_m1 (by omega) q).elim)
    refine V_al0 d_X8_fresh_36 ?_
    refine V_getR d_X8_fresh_37 rfl rfl (by decide) rfl ?_
    refine V_il1 d_X8_fresh_40 ?_
    refine U_cv1 d_X8_fresh_41 (c_X0_leastNewRow r2 hf r3 hi) rfl rfl rfl ?_
    exact V_iret d_X8_fresh_44 rfl (by first | rfl | simp_all) rfl
set_option maxRecDepth 100000 in
theorem g9_fresh {G : Gm} {b : Nat → Nat} {sz : Nat} {ft : Int32} {N : List (List Nat)} {w wy : Nat → Nat} {lk nd : Nat} {vI r : Int32} (hx : TXT b sz ft N) (hB : HB w wy lk nd) (hr : (vI = -1 ∧ r = nI (eB (stN N N.length) 6 0 6)) ∨ ∃ i, i < 6 ∧ vI = nI i ∧ r = oI (lnR (stN N N.length) (i + 1) 0 6)) : EX G M_X9_fresh [.ref (gB G + 22), .int vI] (some (.int (r))) b sz ft N w wy lk nd := by
  intro S h
  obtain ⟨⟨hsz, hbs⟩, hcn, hmt, hhc, hhm, hsh, hfd⟩ := h
  have hN := PR_wf hx.2.2
  have hN8 := hN.1
  obtain ⟨l1, l2⟩ := hB.2.2.1
  obtain ⟨n1, n2⟩ := hB.2.2.2
  have c0 : inR vI (-1) (nI 5) = true := (by rcases hr with ⟨e, _⟩ | ⟨j, hj, e, _⟩ <;> rw [e] <;> first | decide | exact pv_inI j hj)
  obtain ⟨S1, m1, m2, m3⟩ := c_X9_freshOf (G := G) hmt hx hr
  refine ⟨S1, ?_, PQ_M m3⟩
  refine Rn_of hp_X9_fresh [some (.ref (gB G + 22)), some (.int vI)] rfl (Nat.le_of_ble_eq_true rfl) (Nat.le_of_ble_eq_true rfl) ?_
  refine V_il1 d_X9_fresh_0 ?_
  refine V_ki d_X9_fresh_1 ?_
  refine V_ki d_X9_fresh_2 ?_
  refine U_cs3 d_X9_fresh_3 (c_X9_in) rfl ?_
  refine V_eqB d_X9_fresh_6 (fun q => (bTF (c0) q).elim) (fun h6 => ?_)
  refine V_al0 d_X9_fresh_9 ?_
  refine V_il1 d_X9_fresh_10 ?_
  refine U_cv1 d_X9_fresh_11 (m1) rfl rfl rfl ?_
  refine V_goto d_X9_fresh_14 ?_
  exact V_iret d_X9_fresh_19 rfl (by first | rfl | simp_all) rfl
set_option maxRecDepth 100000 in
theorem q_fresh {G : Gm} {b : Nat → Nat} {sz : Nat} {ft : Int32} {N : List (List Nat)} {w wy : Nat → Nat} {lk nd : Nat} {u : Int32} (hx : TXT b sz ft N) (hB : HB w wy lk nd) : ∃ v : Int32, EX G M_X8_fresh [.ref (gB G + 0), .int u] (some (.int v)) b sz ft N w wy lk nd ∧ EX G M_X9_fresh [.ref (gB G + 22), .int u] (some (.int v)) b sz ft N w wy lk nd := by
  have hN := PR_wf hx.2.2
  have hN8 := hN.1
  obtain ⟨l1, l2⟩ := hB.2.2.1
  obtain ⟨n1, n2⟩ := hB.2.2.2
  cases c0 : inR u (-1) (nI 5) with
  | false =>
    refine ⟨-2, ?_, ?_⟩
    · intro S h
      obtain ⟨⟨hsz, hbs⟩, hcn, hmt, hhc, hhm, hsh, hfd⟩ := h
      refine ⟨S, ?_, Ag.rf⟩
      refine Rn_of hp_X8_fresh [some (.ref (gB G + 0)), some (.int u)] rfl (Nat.le_of_ble_eq_true rfl) (Nat.le_of_ble_eq_true rfl) ?_
      refine V_il1 d_X8_fresh_0 ?_
      refine V_ki d_X8_fresh_1 ?_
      refine V_ki d_X8_fresh_2 ?_
      refine U_cs3 d_X8_fresh_3 (c_X8_within) rfl ?_
      refine V_neB d_X8_fresh_6 (fun q => (bTF q (c0)).elim) (fun h6 => ?_)
      refine V_ki d_X8_fresh_9 ?_
      exact V_iret d_X8_fresh_11 rfl (by first | rfl | simp_all) rfl
    · intro S h
      obtain ⟨⟨hsz, hbs⟩, hcn, hmt, hhc, hhm, hsh, hfd⟩ := h

      refine ⟨S, ?_, Ag.rf⟩
      refine Rn_of hp_X9_fresh [some (.ref (gB G + 22)), some (.int u)] rfl (Nat.le_of_ble_eq_true rfl) (Nat.le_of_ble_eq_true rfl) ?_
      refine V_il1 d_X9_fresh_0 ?_
      refine V_ki d_X9_fresh_1 ?_
      refine V_ki d_X9_fresh_2 ?_
      refine U_cs3 d_X9_fresh_3 (c_X9_in) rfl ?_
      refine V_eqB d_X9_fresh_6 (fun h6 => ?_) (fun q => (bTF q (c0)).elim)
      refine V_ki d_X9_fresh_17 ?_
      exact V_iret d_X9_fresh_19 rfl (by first | rfl | simp_all) rfl
  | true =>
    obtain ⟨p, hp, rfl⟩ := pv_ex c0
    by_cases e : p = 6
    · subst e
      have hr : (pv 6 = -1 ∧ nI (eB (stN N N.length) 6 0 6) = nI (eB (stN N N.length) 6 0 6)) ∨ ∃ i, i < 6 ∧ pv 6 = nI i ∧ nI (eB (stN N N.length) 6 0 6) = oI (lnR (stN N N.length) (i + 1) 0 6) := Or.inl ⟨rfl, rfl⟩
      exact ⟨_, g8_fresh hx hB hr, g9_fresh hx hB hr⟩
    · have hr : (pv p = -1 ∧ oI (lnR (stN N N.length) (p + 1) 0 6) = nI (eB (stN N N.length) 6 0 6)) ∨ ∃ i, i < 6 ∧ pv p = nI i ∧ oI (lnR (stN N N.length) (p + 1) 0 6) = oI (lnR (stN N N.length) (i + 1) 0 6) := Or.inr ⟨p, by omega, if_neg e, rfl⟩
      exact ⟨_, g8_fresh hx hB hr, g9_fresh hx hB hr⟩
set_option maxRecDepth 100000 in
theorem g8_breaks {G : Gm} {b : Nat → Nat} {sz : Nat} {ft : Int32} {N : List (List Nat)} {w wy : Nat → Nat} {lk nd : Nat} {x y p j : Nat} (hx : TXT b sz ft N) (hB : HB w wy lk nd) (hxn : x < N.length) (hyn : y < N.length) (hp : p ≤ 16) (hj : j ≤ 2) : EX G M_X8_breaks [.ref (gB G + 0), .int (nI x), .int (nI y), .int (nI p), .int (nI j)] (some (.int (nI (slc (best (fun x' m => p * hh w wy lk nd (ni N x) x' m + (16 - p) * hh w wy lk nd (ni N y) x' m) (61 - nd - 0) 0 6) j)))) b sz ft N w wy lk nd := by
  intro S h
  obtain ⟨⟨hsz, hbs⟩, hcn, hmt, hhc, hhm, hsh, hfd⟩ := h
  have hN := PR_wf hx.2.2
  have hN8 := hN.1
  obtain ⟨l1, l2⟩ := hB.2.2.1
  obtain ⟨n1, n2⟩ := hB.2.2.2
  have c0 : tolB (nI x) N.length = true := tolB_nI (by omega) hxn
  have c1 : tolB (nI y) N.length = true := tolB_nI (by omega) hyn
  have c2 : inR (nI p) (nI 0) (nI 16) = true := inR_T (by omega) (by decide)
  have c3 : inR (nI j) (nI 0) (nI 2) = true := inR_T (by omega) (by decide)
  obtain ⟨S1, t1, t2, t3⟩ := c_X6_seek (G := G) (pa := p) (pb := 16 - p) (m0 := 0) (lamp := 6) (lI := -1) hhc hB hcn hN hxn hyn (by omega) (by omega) (by omega) nI_l6
  have hpos := best_pos (g := (fun x' m => p * hh w wy lk nd (ni N x) x' m + (16 - p) * hh w wy lk nd (ni N y) x' m)) (k := 61 - nd - 0) (m0 := 0) (lamp := 6) (by omega)
  have hpt := c_X6_part (G := G) (j := j) t2 hpos hj
  refine ⟨S1, ?_, PQ_13 t3⟩
  refine Rn_of hp_X8_breaks [some (.ref (gB G + 0)), some (.int (nI x)), some (.int (nI y)), some (.int (nI p)), some (.int (nI j))] rfl (Nat.le_of_ble_eq_true rfl) (Nat.le_of_ble_eq_true rfl) ?_
  refine V_al0 d_X8_breaks_0 ?_
  refine V_il1 d_X8_breaks_1 ?_
  refine V_il2 d_X8_breaks_2 ?_
  refine V_il3 d_X8_breaks_3 ?_
  refine U_cv3 d_X8_breaks_4 (c_X8_isLot hcn hN) rfl rfl rfl ?_
  refine V_eqB d_X8_breaks_7 (fun q => (bTF ((by rw [c0, c1, c2]; rfl)) q).elim) (fun h7 => ?_)
  refine V_il4 d_X8_breaks_10 ?_
  refine V_ki d_X8_breaks_12 ?_
  refine V_ki d_X8_breaks_13 ?_
  refine U_cs3 d_X8_breaks_14 (c_X8_within) rfl ?_
  refine V_neB d_X8_breaks_17 (fun h17 => ?_) (fun q => (bTF (c3) q).elim)
  refine V_al0 d_X8_breaks_23 ?_
  refine V_getR d_X8_breaks_24 rfl rfl (by decide) rfl ?_
  refine V_il1 d_X8_breaks_27 ?_
  refine V_il3 d_X8_breaks_28 ?_
  refine V_il2 d_X8_breaks_29 ?_
  refine V_ki d_X8_breaks_30 ?_
  refine V_il3 d_X8_breaks_32 ?_
  refine V_isubN d_X8_breaks_33 (hp) ?_
  refine V_ki d_X8_breaks_34 ?_
  refine V_ki d_X8_breaks_35 ?_
  refine U_cv6v d_X8_breaks_36 (t1) rfl rfl rfl ?_
  refine V_al0 d_X8_breaks_39 ?_
  refine V_getR d_X8_breaks_40 rfl rfl (by decide) rfl ?_
  refine V_il4 d_X8_breaks_43 ?_
  refine U_cv1 d_X8_breaks_45 (hpt) rfl rfl rfl ?_
  exact V_iret d_X8_breaks_48 rfl (by first | rfl | simp_all) rfl
set_option maxRecDepth 100000 in
theorem g9_breaks {G : Gm} {b : Nat → Nat} {sz : Nat} {ft : Int32} {N : List (List Nat)} {w wy : Nat → Nat} {lk nd : Nat} {x y p j : Nat} (hx : TXT b sz ft N) (hB : HB w wy lk nd) (hxn : x < N.length) (hyn : y < N.length) (hp : p ≤ 16) (hj : j ≤ 2) : EX G M_X9_breaks [.ref (gB G + 22), .int (nI x), .int (nI y), .int (nI p), .int (nI j)] (some (.int (nI (slc (best (fun x' m => p * hh w wy lk nd (ni N x) x' m + (16 - p) * hh w wy lk nd (ni N y) x' m) (61 - nd - 0) 0 6) j)))) b sz ft N w wy lk nd := by
  intro S h
  obtain ⟨⟨hsz, hbs⟩, hcn, hmt, hhc, hhm, hsh, hfd⟩ := h
  have hN := PR_wf hx.2.2
  have hN8 := hN.1
  obtain ⟨l1, l2⟩ := hB.2.2.1
  obtain ⟨n1, n2⟩ := hB.2.2.2
  have c0 : tolB (nI x) N.length = true := tolB_nI (by omega) hxn
  have c1 : tolB (nI y) N.length = true := tolB_nI (by omega) hyn
  have c2 : inR (nI p) (nI 0) (nI 16) = true := inR_T (by omega) (by decide)
  have c3 : inR (nI j) (nI 0) (nI 2) = true := inR_T (by omega) (by decide)
  obtain ⟨S1, m1, m2, m3⟩ := c_X9_areNights (G := G) (v := nI x) (v' := nI y) hmt hx
  have hhm1 := hhm.ag m3 (fun _ => rfl) (fun _ => rfl) rfl rfl
  obtain ⟨S2, q1, q2⟩ := c_X9_breaksOf (G := G) hhm1 hB m2 hN hxn hyn hp hj
  refine ⟨S2, ?_, (PQ_M m3).tr (PQ_X q2)⟩
  refine Rn_of hp_X9_breaks [some (.ref (gB G + 22)), some (.int (nI x)), some (.int (nI y)), some (.int (nI p)), some (.int (nI j))] rfl (Nat.le_of_ble_eq_true rfl) (Nat.le_of_ble_eq_true rfl) ?_
  refine V_al0 d_X9_breaks_0 ?_
  refine V_il1 d_X9_breaks_1 ?_
  refine V_il2 d_X9_breaks_2 ?_
  refine U_cv2 d_X9_breaks_3 (m1) rfl rfl rfl ?_
  refine V_eqB d_X9_breaks_6 (fun q => (bTF ((by rw [c0, c1]; rfl)) q).elim) (fun h6 => ?_)
  refine V_il3 d_X9_breaks_9 ?_
  refine V_ki d_X9_breaks_10 ?_
  refine V_ki d_X9_breaks_11 ?_
  refine U_cs3 d_X9_breaks_13 (c_X9_in) rfl ?_
  refine V_eqB d_X9_breaks_16 (fun q => (bTF (c2) q).elim) (fun h16 => ?_)
  refine V_il4 d_X9_breaks_19 ?_
  refine V_ki d_X9_breaks_21 ?_
  refine V_ki d_X9_breaks_22 ?_
  refine U_cs3 d_X9_breaks_23 (c_X9_in) rfl ?_
  refine V_eqB d_X9_breaks_26 (fun q => (bTF (c3) q).elim) (fun h26 => ?_)
  refine V_al0 d_X9_breaks_29 ?_
  refine V_il1 d_X9_breaks_30 ?_
  refine V_il2 d_X9_breaks_31 ?_
  refine V_il3 d_X9_breaks_32 ?_
  refine V_il4 d_X9_breaks_33 ?_
  refine U_cv4 d_X9_breaks_35 (q1) rfl rfl rfl ?_
  refine V_goto d_X9_breaks_38 ?_
  exact V_iret d_X9_breaks_43 rfl (by first | rfl | simp_all) rfl
set_option maxRecDepth 100000 in
theorem q_breaks {G : Gm} {b : Nat → Nat} {sz : Nat} {ft : Int32} {N : List (List Nat)} {w wy : Nat → Nat} {lk nd : Nat} {a c p j : Int32} (hx : TXT b sz ft N) (hB : HB w wy lk nd) : ∃ v : Int32, EX G M_X8_breaks [.ref (gB G + 0), .int a, .int c, .int p, .int j] (some (.int v)) b sz ft N w wy lk nd ∧ EX G M_X9_breaks [.ref (gB G + 22), .int a, .int c, .int p, .int j] (some (.int v)) b sz ft N w wy lk nd := by
  have hN := PR_wf hx.2.2
  have hN8 := hN.1
  obtain ⟨l1, l2⟩ := hB.2.2.1
  obtain ⟨n1, n2⟩ := hB.2.2.2
  cases c0 : tolB a N.length with
  | false =>
    refine ⟨-2, ?_, ?_⟩
    · intro S h
      obtain ⟨⟨hsz, hbs⟩, hcn, hmt, hhc, hhm, hsh, hfd⟩ := h
      refine ⟨S, ?_, Ag.rf⟩
      refine Rn_of hp_X8_breaks [some (.ref (gB G + 0)), some (.int a), some (.int c), some (.int p), some (.int j)] rfl (Nat.le_of_ble_eq_true rfl) (Nat.le_of_ble_eq_true rfl) ?_
      refine V_al0 d_X8_breaks_0 ?_
      refine V_il1 d_X8_breaks_1 ?_
      refine V_il2 d_X8_breaks_2 ?_
      refine V_il3 d_X8_breaks_3 ?_
      refine U_cv3 d_X8_breaks_4 (c_X8_isLot hcn hN) rfl rfl rfl ?_
      refine V_eqB d_X8_breaks_7 (fun h7 => ?_) (fun q => (bTF q ((by rw [c0]; rfl))).elim)
      refine V_ki d_X8_breaks_20 ?_
      exact V_iret d_X8_breaks_22 rfl (by first | rfl | simp_all) rfl
    · intro S h
      obtain ⟨⟨hsz, hbs⟩, hcn, hmt, hhc, hhm, hsh, hfd⟩ := h
      obtain ⟨S1, m1, m2, m3⟩ := c_X9_areNights (G := G) (v := a) (v' := c) hmt hx
      refine ⟨S1, ?_, PQ_M m3⟩
      refine Rn_of hp_X9_breaks [some (.ref (gB G + 22)), some (.int a), some (.int c), some (.int p), some (.int j)] rfl (Nat.le_of_ble_eq_true rfl) (Nat.le_of_ble_eq_true rfl) ?_
      refine V_al0 d_X9_breaks_0 ?_
      refine V_il1 d_X9_breaks_1 ?_
      refine V_il2 d_X9_breaks_2 ?_
      refine U_cv2 d_X9_breaks_3 (m1) rfl rfl rfl ?_
      refine V_eqB d_X9_breaks_6 (fun h6 => ?_) (fun q => (bTF q ((by rw [c0]; rfl))).elim)
      refine V_ki d_X9_breaks_41 ?_
      exact V_iret d_X9_breaks_43 rfl (by first | rfl | simp_all) rfl
  | true =>
    cases c1 : tolB c N.length with
    | false =>
      refine ⟨-2, ?_, ?_⟩
      · intro S h
        obtain ⟨⟨hsz, hbs⟩, hcn, hmt, hhc, hhm, hsh, hfd⟩ := h
        refine ⟨S, ?_, Ag.rf⟩
        refine Rn_of hp_X8_breaks [some (.ref (gB G + 0)), some (.int a), some (.int c), some (.int p), some (.int j)] rfl (Nat.le_of_ble_eq_true rfl) (Nat.le_of_ble_eq_true rfl) ?_
        refine V_al0 d_X8_breaks_0 ?_
        refine V_il1 d_X8_breaks_1 ?_
        refine V_il2 d_X8_breaks_2 ?_
        refine V_il3 d_X8_breaks_3 ?_
        refine U_cv3 d_X8_breaks_4 (c_X8_isLot hcn hN) rfl rfl rfl ?_
        refine V_eqB d_X8_breaks_7 (fun h7 => ?_) (fun q => (bTF q ((by rw [c0, c1]; rfl))).elim)
        refine V_ki d_X8_breaks_20 ?_
        exact V_iret d_X8_breaks_22 rfl (by first | rfl | simp_all) rfl
      · intro S h
        obtain ⟨⟨hsz, hbs⟩, hcn, hmt, hhc, hhm, hsh, hfd⟩ := h
        obtain ⟨S1, m1, m2, m3⟩ := c_X9_areNights (G := G) (v := a) (v' := c) hmt hx
        refine ⟨S1, ?_, PQ_M m3⟩
        refine Rn_of hp_X9_breaks [some (.ref (gB G + 22)), some (.int a), some (.int c), some (.int p), some (.int j)] rfl (Nat.le_of_ble_eq_true rfl) (Nat.le_of_ble_eq_true rfl) ?_
        refine V_al0 d_X9_breaks_0 ?_
        refine V_il1 d_X9_breaks_1 ?_
        refine V_il2 d_X9_breaks_2 ?_
        refine U_cv2 d_X9_breaks_3 (m1) rfl rfl rfl ?_
        refine V_eqB d_X9_breaks_6 (fun h6 => ?_) (fun q => (bTF q ((by rw [c0, c1]; rfl))).elim)
        refine V_ki d_X9_breaks_41 ?_
        exact V_iret d_X9_breaks_43 rfl (by first | rfl | simp_all) rfl
    | true =>
      cases c2 : inR p (nI 0) (nI 16) with
      | false =>
        refine ⟨-2, ?_, ?_⟩
        · intro S h
          obtain ⟨⟨hsz, hbs⟩, hcn, hmt, hhc, hhm, hsh, hfd⟩ := h
          refine ⟨S, ?_, Ag.rf⟩
          refine Rn_of hp_X8_breaks [some (.ref (gB G + 0)), some (.int a), some (.int c), some (.int p), some (.int j)] rfl (Nat.le_of_ble_eq_true rfl) (Nat.le_of_ble_eq_true rfl) ?_
          refine V_al0 d_X8_breaks_0 ?_
          refine V_il1 d_X8_breaks_1 ?_
          refine V_il2 d_X8_breaks_2 ?_
          refine V_il3 d_X8_breaks_3 ?_
          refine U_cv3 d_X8_breaks_4 (c_X8_isLot hcn hN) rfl rfl rfl ?_
          refine V_eqB d_X8_breaks_7 (fun h7 => ?_) (fun q => (bTF q ((by rw [c0, c1, c2]; rfl))).elim)
          refine V_ki d_X8_breaks_20 ?_
          exact V_iret d_X8_breaks_22 rfl (by first | rfl | simp_all) rfl
        · intro S h
          obtain ⟨⟨hsz, hbs⟩, hcn, hmt, hhc, hhm, hsh, hfd⟩ := h
          obtain ⟨S1, m1, m2, m3⟩ := c_X9_areNights (G := G) (v := a) (v' := c) hmt hx
          refine ⟨S1, ?_, PQ_M m3⟩
          refine Rn_of hp_X9_breaks [some (.ref (gB G + 22)), some (.int a), some (.int c), some (.int p), some (.int j)] rfl (Nat.le_of_ble_eq_true rfl) (Nat.le_of_ble_eq_true rfl) ?_
          refine V_al0 d_X9_breaks_0 ?_
          refine V_il1 d_X9_breaks_1 ?_
          refine V_il2 d_X9_breaks_2 ?_
          refine U_cv2 d_X9_breaks_3 (m1) rfl rfl rfl ?_
          refine V_eqB d_X9_breaks_6 (fun q => (bTF ((by rw [c0, c1]; rfl)) q).elim) (fun h6 => ?_)
          refine V_il3 d_X9_breaks_9 ?_
          refine V_ki d_X9_breaks_10 ?_
          refine V_ki d_X9_breaks_11 ?_
          refine U_cs3 d_X9_breaks_13 (c_X9_in) rfl ?_
          refine V_eqB d_X9_breaks_16 (fun h16 => ?_) (fun q => (bTF q (c2)).elim)
          refine V_ki d_X9_breaks_41 ?_
          exact V_iret d_X9_breaks_43 rfl (by first | rfl | simp_all) rfl
      | true =>
        cases c3 : inR j (nI 0) (nI 2) with
        | false =>
          refine ⟨-2, ?_, ?_⟩
          · intro S h
            obtain ⟨⟨hsz, hbs⟩, hcn, hmt, hhc, hhm, hsh, hfd⟩ := h
            refine ⟨S, ?_, Ag.rf⟩
            refine Rn_of hp_X8_breaks [some (.ref (gB G + 0)), some (.int a), some (.int c), some (.int p), some (.int j)] rfl (Nat.le_of_ble_eq_true rfl) (Nat.le_of_ble_eq_true rfl) ?_
            refine V_al0 d_X8_breaks_0 ?_
            refine V_il1 d_X8_breaks_1 ?_
            refine V_il2 d_X8_breaks_2 ?_
            refine V_il3 d_X8_breaks_3 ?_
            refine U_cv3 d_X8_breaks_4 (c_X8_isLot hcn hN) rfl rfl rfl ?_
            refine V_eqB d_X8_breaks_7 (fun q => (bTF ((by rw [c0, c1, c2]; rfl)) q).elim) (fun h7 => ?_)
            refine V_il4 d_X8_breaks_10 ?_
            refine V_ki d_X8_breaks_12 ?_
            refine V_ki d_X8_breaks_13 ?_
            refine U_cs3 d_X8_breaks_14 (c_X8_within) rfl ?_
            refine V_neB d_X8_breaks_17 (fun q => (bTF q (c3)).elim) (fun h17 => ?_)
            refine V_ki d_X8_breaks_20 ?_
            exact V_iret d_X8_breaks_22 rfl (by first | rfl | simp_all) rfl
          · intro S h
            obtain ⟨⟨hsz, hbs⟩, hcn, hmt, hhc, hhm, hsh, hfd⟩ := h
            obtain ⟨S1, m1, m2, m3⟩ := c_X9_areNights (G := G) (v := a) (v' := c) hmt hx
            refine ⟨S1, ?_, PQ_M m3⟩
            refine Rn_of hp_X9_breaks [some (.ref (gB G + 22)), some (.int a), some (.int c), some (.int p), some (.int j)] rfl (Nat.le_of_ble_eq_true rfl) (Nat.le_of_ble_eq_true rfl) ?_
            refine V_al0 d_X9_breaks_0 ?_
            refine V_il1 d_X9_breaks_1 ?_
            refine V_il2 d_X9_breaks_2 ?_
            refine U_cv2 d_X9_breaks_3 (m1) rfl rfl rfl ?_
            refine V_eqB d_X9_breaks_6 (fun q => (bTF ((by rw [c0, c1]; rfl)) q).elim) (fun h6 => ?_)
            refine V_il3 d_X9_breaks_9 ?_
            refine V_ki d_X9_breaks_10 ?_
            refine V_ki d_X9_breaks_11 ?_
            refine U_cs3 d_X9_breaks_13 (c_X9_in) rfl ?_
            refine V_eqB d_X9_breaks_16 (fun q => (bTF (c2) q).elim) (fun h16 => ?_)
            refine V_il4 d_X9_breaks_19 ?_
            refine V_ki d_X9_breaks_21 ?_
            refine V_ki d_X9_breaks_22 ?_
            refine U_cs3 d_X9_breaks_23 (c_X9_in) rfl ?_
            refine V_eqB d_X9_breaks_26 (fun h26 => ?_) (fun q => (bTF q (c3)).elim)
            refine V_ki d_X9_breaks_41 ?_
            exact V_iret d_X9_breaks_43 rfl (by first | rfl | simp_all) rfl
        | true =>
          obtain ⟨x, hxn, rfl⟩ := tolB_ex (by omega) c0
          obtain ⟨y, hyn, rfl⟩ := tolB_ex (by omega) c1
          obtain ⟨p, hp, rfl⟩ := inR_ex (by decide) c2
          obtain ⟨j, hj, rfl⟩ := inR_ex (by decide) c3
          exact ⟨_, g8_breaks hx hB hxn hyn hp hj, g9_breaks hx hB hxn hyn hp hj⟩
set_option maxRecDepth 100000 in
theorem g8_seen {G : Gm} {b : Nat → Nat} {sz : Nat} {ft : Int32} {N : List (List Nat)} {w wy : Nat → Nat} {lk nd : Nat} {x y p i j : Nat} (hx : TXT b sz ft N) (hB : HB w wy lk nd) (hxn : x < N.length) (hyn : y < N.length) (hp : p ≤ 16) (hi : i ≤ 5) (hj : j ≤ 2) : EX G M_X8_seen [.ref (gB G + 0), .int (nI x), .int (nI y), .int (nI p), .int (nI i), .int (nI j)] (some (.int (snV N (hh w wy lk nd (ni N x)) (hh w wy lk nd (ni N y)) nd x y p i j))) b sz ft N w wy lk nd := by
  intro S h
  obtain ⟨⟨hsz, hbs⟩, hcn, hmt, hhc, hhm, hsh, hfd⟩ := h
  have hN := PR_wf hx.2.2
  have hN8 := hN.1
  obtain ⟨l1, l2⟩ := hB.2.2.1
  obtain ⟨n1, n2⟩ := hB.2.2.2
  have c0 : tolB (nI x) N.length = true := tolB_nI (by omega) hxn
  have c1 : tolB (nI y) N.length = true := tolB_nI (by omega) hyn
  have c2 : inR (nI p) (nI 0) (nI 16) = true := inR_T (by omega) (by decide)
  have c3 : inR (nI i) (nI 0) (nI 5) = true := inR_T (by omega) (by decide)
  have c4 : inR (nI j) (nI 0) (nI 2) = true := inR_T (by omega) (by decide)
  have sa16 : sA N x i p ≤ 16 := by unfold sA; split <;> omega
  have sb16 : sA N y i (16 - p) ≤ 16 := by unfold sA; split <;> omega
  have start : ∀ {r : Int32} {SE : AS}, U G M_X8_seen (Ze G (some (.int r)) SE) 76 [some (.ref (gB G + 0)), some (.int (nI x)), some (.int (nI y)), some (.int (nI p)), some (.int (nI i)), some (.int (nI j)), some (.int (nI (sA N x i p))), some (.int (nI (sA N y i (16 - p))))] [] S → Rm G M_X8_seen [.ref (gB G + 0), .int (nI x), .int (nI y), .int (nI p), .int (nI i), .int (nI j)] S (some (.int r)) SE := by
    intro r SE hk
    refine Rn_of hp_X8_seen [some (.ref (gB G + 0)), some (.int (nI x)), some (.int (nI y)), some (.int (nI p)), some (.int (nI i)), some (.int (nI j)), none, none] rfl (Nat.le_of_ble_eq_true rfl) (Nat.le_of_ble_eq_true rfl) ?_
    by_cases d1 : sh (ni N x) 0 = nI i
    · by_cases d2 : sh (ni N y) 0 = nI i
      · rw [show sA N x i p = p by rw [sA, if_pos d1], show sA N y i (16 - p) = 16 - p by rw [sA, if_pos d2]] at hk
        refine V_al0 d_X8_seen_0 ?_
        refine V_il1 d_X8_seen_1 ?_
        refine V_il2 d_X8_seen_2 ?_
        refine V_il3 d_X8_seen_3 ?_
        refine U_cv3 d_X8_seen_4 (c_X8_isLot hcn hN) rfl rfl rfl ?_
        refine V_eqB d_X8_seen_7 (fun q => (bTF ((by rw [c0, c1, c2]; rfl)) q).elim) (fun h7 => ?_)
        refine V_il4 d_X8_seen_10 ?_
        refine U_cs1 d_X8_seen_12 (c_X8_isShed) rfl ?_
        refine V_eqB d_X8_seen_15 (fun q => (bTF (c3) q).elim) (fun h15 => ?_)
        refine V_il5 d_X8_seen_18 ?_
        refine V_ki d_X8_seen_20 ?_
        refine V_ki d_X8_seen_21 ?_
        refine U_cs3 d_X8_seen_22 (c_X8_within) rfl ?_
        refine V_neB d_X8_seen_25 (fun h25 => ?_) (fun q => (bTF (c4) q).elim)
        refine V_al0 d_X8_seen_31 ?_
        refine V_getR d_X8_seen_32 rfl rfl (by decide) rfl ?_
        refine V_il1 d_X8_seen_35 ?_
        refine V_ki d_X8_seen_36 ?_
        refine U_cv2 d_X8_seen_37 (c_X4_shedOf (j := 0) hcn hN hxn (by omega)) rfl rfl rfl ?_
        refine V_il4 d_X8_seen_40 ?_
        refine V_ic_ne d_X8_seen_42 (fun q => absurd d1 q) (fun h42 => ?_)
        refine V_il3 d_X8_seen_45 ?_
        refine V_goto d_X8_seen_46 ?_
        refine V_is6 d_X8_seen_50 rfl ?_
        refine V_al0 d_X8_seen_52 ?_
        refine V_getR d_X8_seen_53 rfl rfl (by decide) rfl ?_
        refine V_il2 d_X8_seen_56 ?_
        refine V_ki d_X8_seen_57 ?_
        refine U_cv2 d_X8_seen_58 (c_X4_shedOf (j := 0) hcn hN hyn (by omega)) rfl rfl rfl ?_
        refine V_il4 d_X8_seen_61 ?_
        refine V_ic_ne d_X8_seen_63 (fun q => absurd d2 q) (fun h63 => ?_)
        refine V_ki d_X8_seen_66 ?_
        refine V_il3 d_X8_seen_68 ?_
        refine V_isubN d_X8_seen_69 (hp) ?_
        refine V_goto d_X8_seen_70 ?_
        refine V_is7 d_X8_seen_74 rfl ?_
        exact hk
      · rw [show sA N x i p = p by rw [sA, if_pos d1], show sA N y i (16 - p) = 0 by rw [sA, if_neg d2]] at hk
        refine V_al0 d_X8_seen_0 ?_
        refine V_il1 d_X8_seen_1 ?_
        refine V_il2 d_X8_seen_2 ?_
        refine V_il3 d_X8_seen_3 ?_
        refine U_cv3 d_X8_seen_4 (c_X8_isLot hcn hN) rfl rfl rfl ?_
        refine V_eqB d_X8_seen_7 (fun q => (bTF ((by rw [c0, c1, c2]; rfl)) q).elim) (fun h7 => ?_)
        refine V_il4 d_X8_seen_10 ?_
        refine U_cs1 d_X8_seen_12 (c_X8_isShed) rfl ?_
        refine V_eqB d_X8_seen_15 (fun q => (bTF (c3) q).elim) (fun h15 => ?_)
        refine V_il5 d_X8_seen_18 ?_
        refine V_ki d_X8_seen_20 ?_
        refine V_ki d_X8_seen_21 ?_
        refine U_cs3 d_X8_seen_22 (c_X8_within) rfl ?_
        refine V_neB d_X8_seen_25 (fun h25 => ?_) (fun q => (bTF (c4) q).elim)
        refine V_al0 d_X8_seen_31 ?_
        refine V_getR d_X8_seen_32 rfl rfl (by decide) rfl ?_
        refine V_il1 d_X8_seen_35 ?_
        refine V_ki d_X8_seen_36 ?_
        refine U_cv2 d_X8_seen_37 (c_X4_shedOf (j := 0) hcn hN hxn (by omega)) rfl rfl rfl ?_
        refine V_il4 d_X8_seen_40 ?_
        refine V_ic_ne d_X8_seen_42 (fun q => absurd d1 q) (fun h42 => ?_)
        refine V_il3 d_X8_seen_45 ?_
        refine V_goto d_X8_seen_46 ?_
        refine V_is6 d_X8_seen_50 rfl ?_
        refine V_al0 d_X8_seen_52 ?_
        refine V_getR d_X8_seen_53 rfl rfl (by decide) rfl ?_
        refine V_il2 d_X8_seen_56 ?_
        refine V_ki d_X8_seen_57 ?_
        refine U_cv2 d_X8_seen_58 (c_X4_shedOf (j := 0) hcn hN hyn (by omega)) rfl rfl rfl ?_
        refine V_il4 d_X8_seen_61 ?_
        refine V_ic_ne d_X8_seen_63 (fun h63 => ?_) (fun q => absurd q d2)
        refine V_ki d_X8_seen_73 ?_
        refine V_is7 d_X8_seen_74 rfl ?_
        exact hk
    · by_cases d2 : sh (ni N y) 0 = nI i
      · rw [show sA N x i p = 0 by rw [sA, if_neg d1], show sA N y i (16 - p) = 16 - p by rw [sA, if_pos d2]] at hk
        refine V_al0 d_X8_seen_0 ?_
        refine V_il1 d_X8_seen_1 ?_
        refine V_il2 d_X8_seen_2 ?_
        refine V_il3 d_X8_seen_3 ?_
        refine U_cv3 d_X8_seen_4 (c_X8_isLot hcn hN) rfl rfl rfl ?_
        refine V_eqB d_X8_seen_7 (fun q => (bTF ((by rw [c0, c1, c2]; rfl)) q).elim) (fun h7 => ?_)
        refine V_il4 d_X8_seen_10 ?_
        refine U_cs1 d_X8_seen_12 (c_X8_isShed) rfl ?_
        refine V_eqB d_X8_seen_15 (fun q => (bTF (c3) q).elim) (fun h15 => ?_)
        refine V_il5 d_X8_seen_18 ?_
        refine V_ki d_X8_seen_20 ?_
        refine V_ki d_X8_seen_21 ?_
        refine U_cs3 d_X8_seen_22 (c_X8_within) rfl ?_
        refine V_neB d_X8_seen_25 (fun h25 => ?_) (fun q => (bTF (c4) q).elim)
        refine V_al0 d_X8_seen_31 ?_
        refine V_getR d_X8_seen_32 rfl rfl (by decide) rfl ?_
        refine V_il1 d_X8_seen_35 ?_
        refine V_ki d_X8_seen_36 ?_
        refine U_cv2 d_X8_seen_37 (c_X4_shedOf (j := 0) hcn hN hxn (by omega)) rfl rfl rfl ?_
        refine V_il4 d_X8_seen_40 ?_
        refine V_ic_ne d_X8_seen_42 (fun h42 => ?_) (fun q => absurd q d1)
        refine V_ki d_X8_seen_49 ?_
        refine V_is6 d_X8_seen_50 rfl ?_
        refine V_al0 d_X8_seen_52 ?_
        refine V_getR d_X8_seen_53 rfl rfl (by decide) rfl ?_
        refine V_il2 d_X8_seen_56 ?_
        refine V_ki d_X8_seen_57 ?_
        refine U_cv2 d_X8_seen_58 (c_X4_shedOf (j := 0) hcn hN hyn (by omega)) rfl rfl rfl ?_
        refine V_il4 d_X8_seen_61 ?_
        refine V_ic_ne d_X8_seen_63 (fun q => absurd d2 q) (fun h63 => ?_)
        refine V_ki d_X8_seen_66 ?_
        refine V_il3 d_X8_seen_68 ?_
        refine V_isubN d_X8_seen_69 (hp) ?_
        refine V_goto d_X8_seen_70 ?_
        refine V_is7 d_X8_seen_74 rfl ?_
        exact hk
      · rw [show sA N x i p = 0 by rw [sA, if_neg d1], show sA N y i (16 - p) = 0 by rw [sA, if_neg d2]] at hk
        refine V_al0 d_X8_seen_0 ?_
        refine V_il1 d_X8_seen_1 ?_
        refine V_il2 d_X8_seen_2 ?_
        refine V_il3 d_X8_seen_3 ?_
        refine U_cv3 d_X8_seen_4 (c_X8_isLot hcn hN) rfl rfl rfl ?_
        refine V_eqB d_X8_seen_7 (fun q => (bTF ((by rw [c0, c1, c2]; rfl)) q).elim) (fun h7 => ?_)
        refine V_il4 d_X8_seen_10 ?_
        refine U_cs1 d_X8_seen_12 (c_X8_isShed) rfl ?_
        refine V_eqB d_X8_seen_15 (fun q => (bTF (c3) q).elim) (fun h15 => ?_)
        refine V_il5 d_X8_seen_18 ?_
        refine V_ki d_X8_seen_20 ?_
        refine V_ki d_X8_seen_21 ?_
        refine U_cs3 d_X8_seen_22 (c_X8_within) rfl ?_
        refine V_neB d_X8_seen_25 (fun h25 => ?_) (fun q => (bTF (c4) q).elim)
        refine V_al0 d_X8_seen_31 ?_
        refine V_getR d_X8_seen_32 rfl rfl (by decide) rfl ?_
        refine V_il1 d_X8_seen_35 ?_
        refine V_ki d_X8_seen_36 ?_
        refine U_cv2 d_X8_seen_37 (c_X4_shedOf (j := 0) hcn hN hxn (by omega)) rfl rfl rfl ?_
        refine V_il4 d_X8_seen_40 ?_
        refine V_ic_ne d_X8_seen_42 (fun h42 => ?_) (fun q => absurd q d1)
        refine V_ki d_X8_seen_49 ?_
        refine V_is6 d_X8_seen_50 rfl ?_
        refine V_al0 d_X8_seen_52 ?_
        refine V_getR d_X8_seen_53 rfl rfl (by decide) rfl ?_
        refine V_il2 d_X8_seen_56 ?_
        refine V_ki d_X8_seen_57 ?_
        refine U_cv2 d_X8_seen_58 (c_X4_shedOf (j := 0) hcn hN hyn (by omega)) rfl rfl rfl ?_
        refine V_il4 d_X8_seen_61 ?_
        refine V_ic_ne d_X8_seen_63 (fun h63 => ?_) (fun q => absurd q d2)
        refine V_ki d_X8_seen_73 ?_
        refine V_is7 d_X8_seen_74 rfl ?_
        exact hk
  unfold snV
  by_cases e0 : sA N x i p + sA N y i (16 - p) = 0
  · rw [if_pos e0]
    refine ⟨S, start ?_, Ag.rf⟩
    refine V_il6 d_X8_seen_76 ?_
    refine V_il7 d_X8_seen_78 ?_
    first | with_reducible refine V_iaddN d_X8_seen_80 ?_ | refine V_iadd d_X8_seen_80 ?_
    refine U_if_neN d_X8_seen_81 (by omega) (fun q => absurd e0 q) (fun h81 => ?_)
    refine V_ki d_X8_seen_84 ?_
    exact V_iret d_X8_seen_86 rfl (by first | rfl | simp_all) rfl
  · rw [if_neg e0]
    obtain ⟨S1, t1, t2, t3⟩ := c_X6_seek (G := G) (pa := sA N x i p) (pb := sA N y i (16 - p)) (m0 := 1) (lamp := 6) (lI := -1) hhc hB hcn hN hxn hyn (by omega) (by omega) (by omega) nI_l6
    have hpos := best_pos (g := (fun x' m => sA N x i p * hh w wy lk nd (ni N x) x' m + sA N y i (16 - p) * hh w wy lk nd (ni N y) x' m)) (k := 61 - nd - 1) (m0 := 1) (lamp := 6) (by omega)
    have hpt := c_X6_part (G := G) (j := j) t2 hpos hj
    refine ⟨S1, start ?_, PQ_13 t3⟩
    refine V_il6 d_X8_seen_76 ?_
    refine V_il7 d_X8_seen_78 ?_
    first | with_reducible refine V_iaddN d_X8_seen_80 ?_ | refine V_iadd d_X8_seen_80 ?_
    refine U_if_neN d_X8_seen_81 (by omega) (fun h81 => ?_) (fun q => absurd q e0)
    refine V_al0 d_X8_seen_87 ?_
    refine V_getR d_X8_seen_88 rfl rfl (by decide) rfl ?_
    refine V_il1 d_X8_seen_91 ?_
    refine V_il6 d_X8_seen_92 ?_
    refine V_il2 d_X8_seen_94 ?_
    refine V_il7 d_X8_seen_95 ?_
    refine V_ki d_X8_seen_97 ?_
    refine V_ki d_X8_seen_98 ?_
    refine U_cv6v d_X8_seen_99 (t1) rfl rfl rfl ?_
    refine V_al0 d_X8_seen_102 ?_
    refine V_getR d_X8_seen_103 rfl rfl (by decide) rfl ?_
    refine V_il5 d_X8_seen_106 ?_
    refine U_cv1 d_X8_seen_108 (hpt) rfl rfl rfl ?_
    exact V_iret d_X8_seen_111 rfl (by first | rfl | simp_all) rfl
set_option maxRecDepth 100000 in
theorem g9_seen {G : Gm} {b : Nat → Nat} {sz : Nat} {ft : Int32} {N : List (List Nat)} {w wy : Nat → Nat} {lk nd : Nat} {x y p i j : Nat} (hx : TXT b sz ft N) (hB : HB w wy lk nd) (hxn : x < N.length) (hyn : y < N.length) (hp : p ≤ 16) (hi : i ≤ 5) (hj : j ≤ 2) : EX G M_X9_seen [.ref (gB G + 22), .int (nI x), .int (nI y), .int (nI p), .int (nI i), .int (nI j)] (some (.int (snV N (hh w wy lk nd (ni N x)) (hh w wy lk nd (ni N y)) nd x y p i j))) b sz ft N w wy lk nd := by
  intro S h
  obtain ⟨⟨hsz, hbs⟩, hcn, hmt, hhc, hhm, hsh, hfd⟩ := h
  have hN := PR_wf hx.2.2
  have hN8 := hN.1
  obtain ⟨l1, l2⟩ := hB.2.2.1
  obtain ⟨n1, n2⟩ := hB.2.2.2
  have c0 : tolB (nI x) N.length = true := tolB_nI (by omega) hxn
  have c1 : tolB (nI y) N.length = true := tolB_nI (by omega) hyn
  have c2 : inR (nI p) (nI 0) (nI 16) = true := inR_T (by omega) (by decide)
  have c3 : inR (nI i) (nI 0) (nI 5) = true := inR_T (by omega) (by decide)
  have c4 : inR (nI j) (nI 0) (nI 2) = true := inR_T (by omega) (by decide)
  obtain ⟨S1, m1, m2, m3⟩ := c_X9_areNights (G := G) (v := nI x) (v' := nI y) hmt hx
  have hhm1 := hhm.ag m3 (fun _ => rfl) (fun _ => rfl) rfl rfl
  obtain ⟨S2, q1, q2⟩ := c_X9_seenOf (G := G) (x := i) hhm1 hB m2 hN hxn hyn hp (by omega) hj
  refine ⟨S2, ?_, (PQ_M m3).tr (PQ_X q2)⟩
  refine Rn_of hp_X9_seen [some (.ref (gB G + 22)), some (.int (nI x)), some (.int (nI y)), some (.int (nI p)), some (.int (nI i)), some (.int (nI j))] rfl (Nat.le_of_ble_eq_true rfl) (Nat.le_of_ble_eq_true rfl) ?_
  refine V_al0 d_X9_seen_0 ?_
  refine V_il1 d_X9_seen_1 ?_
  refine V_il2 d_X9_seen_2 ?_
  refine U_cv2 d_X9_seen_3 (m1) rfl rfl rfl ?_
  refine V_eqB d_X9_seen_6 (fun q => (bTF ((by rw [c0, c1]; rfl)) q).elim) (fun h6 => ?_)
  refine V_il3 d_X9_seen_9 ?_
  refine V_ki d_X9_seen_10 ?_
  refine V_ki d_X9_seen_11 ?_
  refine U_cs3 d_X9_seen_13 (c_X9_in) rfl ?_
  refine V_eqB d_X9_seen_16 (fun q => (bTF (c2) q).elim) (fun h16 => ?_)
  refine V_il4 d_X9_seen_19 ?_
  refine U_cs1 d_X9_seen_21 (c_X9_isShed) rfl ?_
  refine V_eqB d_X9_seen_24 (fun q => (bTF (c3) q).elim) (fun h24 => ?_)
  refine V_il5 d_X9_seen_27 ?_
  refine V_ki d_X9_seen_29 ?_
  refine V_ki d_X9_seen_30 ?_
  refine U_cs3 d_X9_seen_31 (c_X9_in) rfl ?_
  refine V_eqB d_X9_seen_34 (fun q => (bTF (c4) q).elim) (fun h34 => ?_)
  refine V_al0 d_X9_seen_37 ?_
  refine V_il1 d_X9_seen_38 ?_
  refine V_il2 d_X9_seen_39 ?_
  refine V_il3 d_X9_seen_40 ?_
  refine V_il4 d_X9_seen_41 ?_
  refine V_il5 d_X9_seen_43 ?_
  refine U_cv5 d_X9_seen_45 (q1) rfl rfl rfl ?_
  refine V_goto d_X9_seen_48 ?_
  exact V_iret d_X9_seen_53 rfl (by first | rfl | simp_all) rfl
set_option maxRecDepth 100000 in
theorem q_seen {G : Gm} {b : Nat → Nat} {sz : Nat} {ft : Int32} {N : List (List Nat)} {w wy : Nat → Nat} {lk nd : Nat} {a c p i j : Int32} (hx : TXT b sz ft N) (hB : HB w wy lk nd) : ∃ v : Int32, EX G M_X8_seen [.ref (gB G + 0), .int a, .int c, .int p, .int i, .int j] (some (.int v)) b sz ft N w wy lk nd ∧ EX G M_X9_seen [.ref (gB G + 22), .int a, .int c, .int p, .int i, .int j] (some (.int v)) b sz ft N w wy lk nd := by
  have hN := PR_wf hx.2.2
  have hN8 := hN.1
  obtain ⟨l1, l2⟩ := hB.2.2.1
  obtain ⟨n1, n2⟩ := hB.2.2.2
  cases c0 : tolB a N.length with
  | false =>
    refine ⟨-2, ?_, ?_⟩
    · intro S h
      obtain ⟨⟨hsz, hbs⟩, hcn, hmt, hhc, hhm, hsh, hfd⟩ := h
      refine ⟨S, ?_, Ag.rf⟩
      refine Rn_of hp_X8_seen [some (.ref (gB G + 0)), some (.int a), some (.int c), some (.int p), some (.int i), some (.int j), none, none] rfl (Nat.le_of_ble_eq_true rfl) (Nat.le_of_ble_eq_true rfl) ?_
      refine V_al0 d_X8_seen_0 ?_
      refine V_il1 d_X8_seen_1 ?_
      refine V_il2 d_X8_seen_2 ?_
      refine V_il3 d_X8_seen_3 ?_
      refine U_cv3 d_X8_seen_4 (c_X8_isLot hcn hN) rfl rfl rfl ?_
      refine V_eqB d_X8_seen_7 (fun h7 => ?_) (fun q => (bTF q ((by rw [c0]; rfl))).elim)
      refine V_ki d_X8_seen_28 ?_
      exact V_iret d_X8_seen_30 rfl (by first | rfl | simp_all) rfl
    · intro S h
      obtain ⟨⟨hsz, hbs⟩, hcn, hmt, hhc, hhm, hsh, hfd⟩ := h
      obtain ⟨S1, m1, m2, m3⟩ := c_X9_areNights (G := G) (v := a) (v' := c) hmt hx
      refine ⟨S1, ?_, PQ_M m3⟩
      refine Rn_of hp_X9_seen [some (.ref (gB G + 22)), some (.int a), some (.int c), some (.int p), some (.int i), some (.int j)] rfl (Nat.le_of_ble_eq_true rfl) (Nat.le_of_ble_eq_true rfl) ?_
      refine V_al0 d_X9_seen_0 ?_
      refine V_il1 d_X9_seen_1 ?_
      refine V_il2 d_X9_seen_2 ?_
      refine U_cv2 d_X9_seen_3 (m1) rfl rfl rfl ?_
      refine V_eqB d_X9_seen_6 (fun h6 => ?_) (fun q => (bTF q ((by rw [c0]; rfl))).elim)
      refine V_ki d_X9_seen_51 ?_
      exact V_iret d_X9_seen_53 rfl (by first | rfl | simp_all) rfl
  | true =>
    cases c1 : tolB c N.length with
    | false =>
      refine ⟨-2, ?_, ?_⟩
      · intro S h
        obtain ⟨⟨hsz, hbs⟩, hcn, hmt, hhc, hhm, hsh, hfd⟩ := h
        refine ⟨S, ?_, Ag.rf⟩
        refine Rn_of hp_X8_seen [some (.ref (gB G + 0)), some (.int a), some (.int c), some (.int p), some (.int i), some (.int j), none, none] rfl (Nat.le_of_ble_eq_true rfl) (Nat.le_of_ble_eq_true rfl) ?_
        refine V_al0 d_X8_seen_0 ?_
        refine V_il1 d_X8_seen_1 ?_
        refine V_il2 d_X8_seen_2 ?_
        refine V_il3 d_X8_seen_3 ?_
        refine U_cv3 d_X8_seen_4 (c_X8_isLot hcn hN) rfl rfl rfl ?_
        refine V_eqB d_X8_seen_7 (fun h7 => ?_) (fun q => (bTF q ((by rw [c0, c1]; rfl))).elim)
        refine V_ki d_X8_seen_28 ?_
        exact V_iret d_X8_seen_30 rfl (by first | rfl | simp_all) rfl
      · intro S h
        obtain ⟨⟨hsz, hbs⟩, hcn, hmt, hhc, hhm, hsh, hfd⟩ := h
        obtain ⟨S1, m1, m2, m3⟩ := c_X9_areNights (G := G) (v := a) (v' := c) hmt hx
        refine ⟨S1, ?_, PQ_M m3⟩
        refine Rn_of hp_X9_seen [some (.ref (gB G + 22)), some (.int a), some (.int c), some (.int p), some (.int i), some (.int j)] rfl (Nat.le_of_ble_eq_true rfl) (Nat.le_of_ble_eq_true rfl) ?_
        refine V_al0 d_X9_seen_0 ?_
        refine V_il1 d_X9_seen_1 ?_
        refine V_il2 d_X9_seen_2 ?_
        refine U_cv2 d_X9_seen_3 (m1) rfl rfl rfl ?_
        refine V_eqB d_X9_seen_6 (fun h6 => ?_) (fun q => (bTF q ((by rw [c0, c1]; rfl))).elim)
        refine V_ki d_X9_seen_51 ?_
        exact V_iret d_X9_seen_53 rfl (by first | rfl | simp_all) rfl
    | true =>
      cases c2 : inR p (nI 0) (nI 16) with
      | false =>
        refine ⟨-2, ?_, ?_⟩
        · intro S h
          obtain ⟨⟨hsz, hbs⟩, hcn, hmt, hhc, hhm, hsh, hfd⟩ := h
          refine ⟨S, ?_, Ag.rf⟩
          refine Rn_of hp_X8_seen [some (.ref (gB G + 0)), some (.int a), some (.int c), some (.int p), some (.int i), some (.int j), none, none] rfl (Nat.le_of_ble_eq_true rfl) (Nat.le_of_ble_eq_true rfl) ?_
          refine V_al0 d_X8_seen_0 ?_
          refine V_il1 d_X8_seen_1 ?_
          refine V_il2 d_X8_seen_2 ?_
          refine V_il3 d_X8_seen_3 ?_
          refine U_cv3 d_X8_seen_4 (c_X8_isLot hcn hN) rfl rfl rfl ?_
          refine V_eqB d_X8_seen_7 (fun h7 => ?_) (fun q => (bTF q ((by rw [c0, c1, c2]; rfl))).elim)
          refine V_ki d_X8_seen_28 ?_
          exact V_iret d_X8_seen_30 rfl (by first | rfl | simp_all) rfl
        · intro S h
          obtain ⟨⟨hsz, hbs⟩, hcn, hmt, hhc, hhm, hsh, hfd⟩ := h
          obtain ⟨S1, m1, m2, m3⟩ := c_X9_areNights (G := G) (v := a) (v' := c) hmt hx
          refine ⟨S1, ?_, PQ_M m3⟩
          refine Rn_of hp_X9_seen [some (.ref (gB G + 22)), some (.int a), some (.int c), some (.int p), some (.int i), some (.int j)] rfl (Nat.le_of_ble_eq_true rfl) (Nat.le_of_ble_eq_true rfl) ?_
          refine V_al0 d_X9_seen_0 ?_
          refine V_il1 d_X9_seen_1 ?_
          refine V_il2 d_X9_seen_2 ?_
          refine U_cv2 d_X9_seen_3 (m1) rfl rfl rfl ?_
          refine V_eqB d_X9_seen_6 (fun q => (bTF ((by rw [c0, c1]; rfl)) q).elim) (fun h6 => ?_)
          refine V_il3 d_X9_seen_9 ?_
          refine V_ki d_X9_seen_10 ?_
          refine V_ki d_X9_seen_11 ?_
          refine U_cs3 d_X9_seen_13 (c_X9_in) rfl ?_
          refine V_eqB d_X9_seen_16 (fun h16 => ?_) (fun q => (bTF q (c2)).elim)
          refine V_ki d_X9_seen_51 ?_
          exact V_iret d_X9_seen_53 rfl (by first | rfl | simp_all) rfl
      | true =>
        cases c3 : inR i (nI 0) (nI 5) with
        | false =>
          refine ⟨-2, ?_, ?_⟩
          · intro S h
            obtain ⟨⟨hsz, hbs⟩, hcn, hmt, hhc, hhm, hsh, hfd⟩ := h
            refine ⟨S, ?_, Ag.rf⟩
            refine Rn_of hp_X8_seen [some (.ref (gB G + 0)), some (.int a), some (.int c), some (.int p), some (.int i), some (.int j), none, none] rfl (Nat.le_of_ble_eq_true rfl) (Nat.le_of_ble_eq_true rfl) ?_
            refine V_al0 d_X8_seen_0 ?_
            refine V_il1 d_X8_seen_1 ?_
            refine V_il2 d_X8_seen_2 ?_
            refine V_il3 d_X8_seen_3 ?_
            refine U_cv3 d_X8_seen_4 (c_X8_isLot hcn hN) rfl rfl rfl ?_
            refine V_eqB d_X8_seen_7 (fun q => (bTF ((by rw [c0, c1, c2]; rfl)) q).elim) (fun h7 => ?_)
            refine V_il4 d_X8_seen_10 ?_
            refine U_cs1 d_X8_seen_12 (c_X8_isShed) rfl ?_
            refine V_eqB d_X8_seen_15 (fun h15 => ?_) (fun q => (bTF q (c3)).elim)
            refine V_ki d_X8_seen_28 ?_
            exact V_iret d_X8_seen_30 rfl (by first | rfl | simp_all) rfl
          · intro S h
            obtain ⟨⟨hsz, hbs⟩, hcn, hmt, hhc, hhm, hsh, hfd⟩ := h
            obtain ⟨S1, m1, m2, m3⟩ := c_X9_areNights (G := G) (v := a) (v' := c) hmt hx
            refine ⟨S1, ?_, PQ_M m3⟩
            refine Rn_of hp_X9_seen [some (.ref (gB G + 22)), some (.int a), some (.int c), some (.int p), some (.int i), some (.int j)] rfl (Nat.le_of_ble_eq_true rfl) (Nat.le_of_ble_eq_true rfl) ?_
            refine V_al0 d_X9_seen_0 ?_
            refine V_il1 d_X9_seen_1 ?_
            refine V_il2 d_X9_seen_2 ?_
            refine U_cv2 d_X9_seen_3 (m1) rfl rfl rfl ?_
            refine V_eqB d_X9_seen_6 (fun q => (bTF ((by rw [c0, c1]; rfl)) q).elim) (fun h6 => ?_)
            refine V_il3 d_X9_seen_9 ?_
            refine V_ki d_X9_seen_10 ?_
            refine V_ki d_X9_seen_11 ?_
            refine U_cs3 d_X9_seen_13 (c_X9_in) rfl ?_
            refine V_eqB d_X9_seen_16 (fun q => (bTF (c2) q).elim) (fun h16 => ?_)
            refine V_il4 d_X9_seen_19 ?_
            refine U_cs1 d_X9_seen_21 (c_X9_isShed) rfl ?_
            refine V_eqB d_X9_seen_24 (fun h24 => ?_) (fun q => (bTF q (c3)).elim)
            refine V_ki d_X9_seen_51 ?_
            exact V_iret d_X9_seen_53 rfl (by first | rfl | simp_all) rfl
        | true =>
          cases c4 : inR j (nI 0) (nI 2) with
          | false =>
            refine ⟨-2, ?_, ?_⟩
            · intro S h
              obtain ⟨⟨hsz, hbs⟩, hcn, hmt, hhc, hhm, hsh, hfd⟩ := h
              refine ⟨S, ?_, Ag.rf⟩
              refine Rn_of hp_X8_seen [some (.ref (gB G + 0)), some (.int a), some (.int c), some (.int p), some (.int i), some (.int j), none, none] rfl (Nat.le_of_ble_eq_true rfl) (Nat.le_of_ble_eq_true rfl) ?_
              refine V_al0 d_X8_seen_0 ?_
              refine V_il1 d_X8_seen_1 ?_
              refine V_il2 d_X8_seen_2 ?_
              refine V_il3 d_X8_seen_3 ?_
              refine U_cv3 d_X8_seen_4 (c_X8_isLot hcn hN) rfl rfl rfl ?_
              refine V_eqB d_X8_seen_7 (fun q => (bTF ((by rw [c0, c1, c2]; rfl)) q).elim) (fun h7 => ?_)
              refine V_il4 d_X8_seen_10 ?_
              refine U_cs1 d_X8_seen_12 (c_X8_isShed) rfl ?_
              refine V_eqB d_X8_seen_15 (fun q => (bTF (c3) q).elim) (fun h15 => ?_)
              refine V_il5 d_X8_seen_18 ?_
              refine V_ki d_X8_seen_20 ?_
              refine V_ki d_X8_seen_21 ?_
              refine U_cs3 d_X8_seen_22 (c_X8_within) rfl ?_
              refine V_neB d_X8_seen_25 (fun q => (bTF q (c4)).elim) (fun h25 => ?_)
              refine V_ki d_X8_seen_28 ?_
              exact V_iret d_X8_seen_30 rfl (by first | rfl | simp_all) rfl
            · intro S h
              obtain ⟨⟨hsz, hbs⟩, hcn, hmt, hhc, hhm, hsh, hfd⟩ := h
              obtain ⟨S1, m1, m2, m3⟩ := c_X9_areNights (G := G) (v := a) (v' := c) hmt hx
              refine ⟨S1, ?_, PQ_M m3⟩
              refine Rn_of hp_X9_seen [some (.ref (gB G + 22)), some (.int a), some (.int c), some (.int p), some (.int i), some (.int j)] rfl (Nat.le_of_ble_eq_true rfl) (Nat.le_of_ble_eq_true rfl) ?_
              refine V_al0 d_X9_seen_0 ?_
              refine V_il1 d_X9_seen_1 ?_
              refine V_il2 d_X9_seen_2 ?_
              refine U_cv2 d_X9_seen_3 (m1) rfl rfl rfl ?_
              refine V_eqB d_X9_seen_6 (fun q => (bTF ((by rw [c0, c1]; rfl)) q).elim) (fun h6 => ?_)
              refine V_il3 d_X9_seen_9 ?_
              refine V_ki d_X9_seen_10 ?_
              refine V_ki d_X9_seen_11 ?_
              refine U_cs3 d_X9_seen_13 (c_X9_in) rfl ?_
              refine V_eqB d_X9_seen_16 (fun q => (bTF (c2) q).elim) (fun h16 => ?_)
              refine V_il4 d_X9_seen_19 ?_
              refine U_cs1 d_X9_seen_21 (c_X9_isShed) rfl ?_
              refine V_eqB d_X9_seen_24 (fun q => (bTF (c3) q).elim) (fun h24 => ?_)
              refine V_il5 d_X9_seen_27 ?_
              refine V_ki d_X9_seen_29 ?_
              refine V_ki d_X9_seen_30 ?_
              refine U_cs3 d_X9_seen_31 (c_X9_in) rfl ?_
              refine V_eqB d_X9_seen_34 (fun h34 => ?_) (fun q => (bTF q (c4)).elim)
              refine V_ki d_X9_seen_51 ?_
              exact V_iret d_X9_seen_53 rfl (by first | rfl | simp_all) rfl
          | true =>
            obtain ⟨x, hxn, rfl⟩ := tolB_ex (by omega) c0
            obtain ⟨y, hyn, rfl⟩ := tolB_ex (by omega) c1
            obtain ⟨p, hp, rfl⟩ := inR_ex (by decide) c2
            obtain ⟨i, hi, rfl⟩ := inR_ex (by decide) c3
            obtain ⟨j, hj, rfl⟩ := inR_ex (by decide) c4
            exact ⟨_, g8_seen hx hB hxn hyn hp hi hj, g9_seen hx hB hxn hyn hp hi hj⟩
set_option maxRecDepth 100000 in
theorem g8_least {G : Gm} {b : Nat → Nat} {sz : Nat} {ft : Int32} {N : List (List Nat)} {w wy : Nat → Nat} {lk nd : Nat} {x y j : Nat} (hx : TXT b sz ft N) (hB : HB w wy lk nd) (hxn : x < N.length) (hyn : y < N.length) (hj : j ≤ 3) : EX G M_X8_least [.ref (gB G + 0), .int (nI x), .int (nI y), .int (nI j)] (some (.long (lN (lsV (hh w wy lk nd (ni N x)) (hh w wy lk nd (ni N y)) (61 - nd) j)))) b sz ft N w wy lk nd := by
  intro S h
  obtain ⟨⟨hsz, hbs⟩, hcn, hmt, hhc, hhm, hsh, hfd⟩ := h
  have hN := PR_wf hx.2.2
  have hN8 := hN.1
  obtain ⟨l1, l2⟩ := hB.2.2.1
  obtain ⟨n1, n2⟩ := hB.2.2.2
  have c0 : tolB (nI x) N.length = true := tolB_nI (by omega) hxn
  have c1 : tolB (nI y) N.length = true := tolB_nI (by omega) hyn
  have c2 : inR (nI j) (nI 0) (nI 3) = true := inR_T (by omega) (by decide)
  by_cases c5 : j < 2
  · skip
    obtain ⟨S1, t1, t2, t3⟩ := c_X6_leastLot (G := G) hhc hB hcn hN hxn hyn
    have hpt := c_X2_part (G := G) (S := S1) (k := 14) (j := j) rfl (by decide) (by omega)
    have ej : S1.2 14 (if j = 0 then 0 else 1) = lN (lsV (hh w wy lk nd (ni N x)) (hh w wy lk nd (ni N y)) (61 - nd) j) := by
      unfold lsV
      rw [if_pos c5]
      rcases (show j = 0 ∨ j = 1 by omega) with e | e
      · rw [e]; exact t2 0 (by decide)
      · rw [e]; exact t2 1 (by decide)
    rw [ej] at hpt
    refine ⟨S1, ?_, PQ_13a t3⟩
    refine Rn_of hp_X8_least [some (.ref (gB G + 0)), some (.int (nI x)), some (.int (nI y)), some (.int (nI j))] rfl (Nat.le_of_ble_eq_true rfl) (Nat.le_of_ble_eq_true rfl) ?_
    refine V_al0 d_X8_least_0 ?_
    refine V_getR d_X8_least_1 rfl rfl (by decide) rfl ?_
    refine V_il1 d_X8_least_4 ?_
    refine U_cv1 d_X8_least_5 (c_X4_isTold hcn.2.1 hN8) rfl rfl rfl ?_
    refine V_eqB d_X8_least_8 (fun q => (bTF (c0) q).elim) (fun h8 => ?_)
    refine V_al0 d_X8_least_11 ?_
    refine V_getR d_X8_least_12 rfl rfl (by decide) rfl ?_
    refine V_il2 d_X8_least_15 ?_
    refine U_cv1 d_X8_least_16 (c_X4_isTold hcn.2.1 hN8) rfl rfl rfl ?_
    refine V_eqB d_X8_least_19 (fun q => (bTF (c1) q).elim) (fun h19 => ?_)
    refine V_il3 d_X8_least_22 ?_
    refine V_ki d_X8_least_23 ?_
    refine V_ki d_X8_least_24 ?_
    refine U_cs3 d_X8_least_25 (c_X8_within) rfl ?_
    refine V_neB d_X8_least_28 (fun h28 => ?_) (fun q => (bTF (c2) q).elim)
    refine V_il3 d_X8_least_37 ?_
    refine V_ki d_X8_least_38 ?_
    refine U_ic_geN d_X8_least_39 (by omega) (by omega) (fun q => absurd q (by omega)) (fun h39 => ?_)
    refine V_al0 d_X8_least_42 ?_
    refine V_getR d_X8_least_43 rfl rfl (by decide) rfl ?_
    refine V_il1 d_X8_least_46 ?_
    refine V_il2 d_X8_least_47 ?_
    refine U_cv2 d_X8_least_48 (t1) rfl rfl rfl ?_
    refine V_il3 d_X8_least_51 ?_
    refine U_cv1 d_X8_least_52 (hpt) rfl rfl rfl ?_
    refine V_goto d_X8_least_55 ?_
    exact V_lret d_X8_least_73 rfl (by first | rfl | simp_all) rfl
  · skip
    obtain ⟨S1, t1, t2, t3⟩ := c_X6_leastMean (G := G) hhc hB hcn hN hxn hyn
    have hpt := c_X2_part (G := G) (S := S1) (k := 14) (j := (j - 2)) rfl (by decide) (by omega)
    have ej : S1.2 14 (if (j - 2) = 0 then 0 else 1) = lN (lsV (hh w wy lk nd (ni N x)) (hh w wy lk nd (ni N y)) (61 - nd) j) := by
      unfold lsV
      rw [if_neg c5]
      rcases (show (j - 2) = 0 ∨ (j - 2) = 1 by omega) with e | e
      · rw [e]; exact t2 0 (by decide)
      · rw [e]; exact t2 1 (by decide)
    rw [ej] at hpt
    refine ⟨S1, ?_, PQ_13a t3⟩
    refine Rn_of hp_X8_least [some (.ref (gB G + 0)), some (.int (nI x)), some (.int (nI y)), some (.int (nI j))] rfl (Nat.le_of_ble_eq_true rfl) (Nat.le_of_ble_eq_true rfl) ?_
    refine V_al0 d_X8_least_0 ?_
    refine V_getR d_X8_least_1 rfl rfl (by decide) rfl ?_
    refine V_il1 d_X8_least_4 ?_
    refine U_cv1 d_X8_least_5 (c_X4_isTold hcn.2.1 hN8) rfl rfl rfl ?_
    refine V_eqB d_X8_least_8 (fun q => (bTF (c0) q).elim) (fun h8 => ?_)
    refine V_al0 d_X8_least_11 ?_
    refine V_getR d_X8_least_12 rfl rfl (by decide) rfl ?_
    refine V_il2 d_X8_least_15 ?_
    refine U_cv1 d_X8_least_16 (c_X4_isTold hcn.2.1 hN8) rfl rfl rfl ?_
    refine V_eqB d_X8_least_19 (fun q => (bTF (c1) q).elim) (fun h19 => ?_)
    refine V_il3 d_X8_least_22 ?_
    refine V_ki d_X8_least_23 ?_
    refine V_ki d_X8_least_24 ?_
    refine U_cs3 d_X8_least_25 (c_X8_within) rfl ?_
    refine V_neB d_X8_least_28 (fun h28 => ?_) (fun q => (bTF (c2) q).elim)
    refine V_il3 d_X8_least_37 ?_
    refine V_ki d_X8_least_38 ?_
    refine U_ic_geN d_X8_least_39 (by omega) (by omega) (fun h39 => ?_) (fun q => absurd q (by omega))
    refine V_al0 d_X8_least_58 ?_
    refine V_getR d_X8_least_59 rfl rfl (by decide) rfl ?_
    refine V_il1 d_X8_least_62 ?_
    refine V_il2 d_X8_least_63 ?_
    refine U_cv2 d_X8_least_64 (t1) rfl rfl rfl ?_
    refine V_il3 d_X8_least_67 ?_
    refine V_ki d_X8_least_68 ?_
    refine V_isubN d_X8_least_69 (by omega) ?_
    refine U_cv1 d_X8_least_70 (hpt) rfl rfl rfl ?_
    exact V_lret d_X8_least_73 rfl (by first | rfl | simp_all) rfl
set_option maxRecDepth 100000 in
theorem g9_least {G : Gm} {b : Nat → Nat} {sz : Nat} {ft : Int32} {N : List (List Nat)} {w wy : Nat → Nat} {lk nd : Nat} {x y j : Nat} (hx : TXT b sz ft N) (hB : HB w wy lk nd) (hxn : x < N.length) (hyn : y < N.length) (hj : j ≤ 3) : EX G M_X9_least [.ref (gB G + 22), .int (nI x), .int (nI y), .int (nI j)] (some (.long (lN (lsV (hh w wy lk nd (ni N x)) (hh w wy lk nd (ni N y)) (61 - nd) j)))) b sz ft N w wy lk nd := by
  intro S h
  obtain ⟨⟨hsz, hbs⟩, hcn, hmt, hhc, hhm, hsh, hfd⟩ := h
  have hN := PR_wf hx.2.2
  have hN8 := hN.1
  obtain ⟨l1, l2⟩ := hB.2.2.1
  obtain ⟨n1, n2⟩ := hB.2.2.2
  have c0 : tolB (nI x) N.length = true := tolB_nI (by omega) hxn
  have c1 : tolB (nI y) N.length = true := tolB_nI (by omega) hyn
  have c2 : inR (nI j) (nI 0) (nI 3) = true := inR_T (by omega) (by decide)
  obtain ⟨S1, m1, m2, m3⟩ := c_X9_areNights (G := G) (v := nI x) (v' := nI y) hmt hx
  have hhm1 := hhm.ag m3 (fun _ => rfl) (fun _ => rfl) rfl rfl
  obtain ⟨S2, q1, q2⟩ := c_X9_leastOf (G := G) hhm1 hB m2 hN hxn hyn hj
  refine ⟨S2, ?_, (PQ_M m3).tr (PQ_X q2)⟩
  refine Rn_of hp_X9_least [some (.ref (gB G + 22)), some (.int (nI x)), some (.int (nI y)), some (.int (nI j))] rfl (Nat.le_of_ble_eq_true rfl) (Nat.le_of_ble_eq_true rfl) ?_
  refine V_al0 d_X9_least_0 ?_
  refine V_il1 d_X9_least_1 ?_
  refine V_il2 d_X9_least_2 ?_
  refine U_cv2 d_X9_least_3 (m1) rfl rfl rfl ?_
  refine V_eqB d_X9_least_6 (fun q => (bTF ((by rw [c0, c1]; rfl)) q).elim) (fun h6 => ?_)
  refine V_il3 d_X9_least_9 ?_
  refine V_ki d_X9_least_10 ?_
  refine V_ki d_X9_least_11 ?_
  refine U_cs3 d_X9_least_12 (c_X9_in) rfl ?_
  refine V_eqB d_X9_least_15 (fun q => (bTF (c2) q).elim) (fun h15 => ?_)
  refine V_al0 d_X9_least_18 ?_
  refine V_il1 d_X9_least_19 ?_
  refine V_il2 d_X9_least_20 ?_
  refine V_il3 d_X9_least_21 ?_
  refine U_cv3 d_X9_least_22 (q1) rfl rfl rfl ?_
  refine V_goto d_X9_least_25 ?_
  exact V_lret d_X9_least_33 rfl (by first | rfl | simp_all) rfl
set_option maxRecDepth 100000 in
theorem q_least {G : Gm} {b : Nat → Nat} {sz : Nat} {ft : Int32} {N : List (List Nat)} {w wy : Nat → Nat} {lk nd : Nat} {a c j : Int32} (hx : TXT b sz ft N) (hB : HB w wy lk nd) : ∃ v : Int64, EX G M_X8_least [.ref (gB G + 0), .int a, .int c, .int j] (some (.long v)) b sz ft N w wy lk nd ∧ EX G M_X9_least [.ref (gB G + 22), .int a, .int c, .int j] (some (.long v)) b sz ft N w wy lk nd := by
  have hN := PR_wf hx.2.2
  have hN8 := hN.1
  obtain ⟨l1, l2⟩ := hB.2.2.1
  obtain ⟨n1, n2⟩ := hB.2.2.2
  cases c0 : tolB a N.length with
  | false =>
    refine ⟨(-9223372036854775808 : Int64) - (-2 : Int32).toInt64, ?_, ?_⟩
    · intro S h
      obtain ⟨⟨hsz, hbs⟩, hcn, hmt, hhc, hhm, hsh, hfd⟩ := h
      refine ⟨S, ?_, Ag.rf⟩
      refine Rn_of hp_X8_least [some (.ref (gB G + 0)), some (.int a), some (.int c), some (.int j)] rfl (Nat.le_of_ble_eq_true rfl) (Nat.le_of_ble_eq_true rfl) ?_
      refine V_al0 d_X8_least_0 ?_
      refine V_getR d_X8_least_1 rfl rfl (by decide) rfl ?_
      refine V_il1 d_X8_least_4 ?_
      refine U_cv1 d_X8_least_5 (c_X4_isTold hcn.2.1 hN8) rfl rfl rfl ?_
      refine V_eqB d_X8_least_8 (fun h8 => ?_) (fun q => (bTF q (c0)).elim)
      refine V_ki d_X8_least_31 ?_
      refine U_cs1 d_X8_least_33 (c_X8_refusal) rfl ?_
      exact V_lret d_X8_least_36 rfl (by first | rfl | simp_all) rfl
    · intro S h
      obtain ⟨⟨hsz, hbs⟩, hcn, hmt, hhc, hhm, hsh, hfd⟩ := h
      obtain ⟨S1, m1, m2, m3⟩ := c_X9_areNights (G := G) (v := a) (v' := c) hmt hx
      refine ⟨S1, ?_, PQ_M m3⟩
      refine Rn_of hp_X9_least [some (.ref (gB G + 22)), some (.int a), some (.int c), some (.int j)] rfl (Nat.le_of_ble_eq_true rfl) (Nat.le_of_ble_eq_true rfl) ?_
      refine V_al0 d_X9_least_0 ?_
      refine V_il1 d_X9_least_1 ?_
      refine V_il2 d_X9_least_2 ?_
      refine U_cv2 d_X9_least_3 (m1) rfl rfl rfl ?_
      refine V_eqB d_X9_least_6 (fun h6 => ?_) (fun q => (bTF q ((by rw [c0]; rfl))).elim)
      refine V_ki d_X9_least_28 ?_
      refine U_cs1 d_X9_least_30 (c_X9_no) rfl ?_
      exact V_lret d_X9_least_33 rfl (by first | rfl | simp_all) rfl
  | true =>
    cases c1 : tolB c N.length with
    | false =>
      refine ⟨(-9223372036854775808 : Int64) - (-2 : Int32).toInt64, ?_, ?_⟩
      · intro S h
        obtain ⟨⟨hsz, hbs⟩, hcn, hmt, hhc, hhm, hsh, hfd⟩ := h
        refine ⟨S, ?_, Ag.rf⟩
        refine Rn_of hp_X8_least [some (.ref (gB G + 0)), some (.int a), some (.int c), some (.int j)] rfl (Nat.le_of_ble_eq_true rfl) (Nat.le_of_ble_eq_true rfl) ?_
        refine V_al0 d_X8_least_0 ?_
        refine V_getR d_X8_least_1 rfl rfl (by decide) rfl ?_
        refine V_il1 d_X8_least_4 ?_
        refine U_cv1 d_X8_least_5 (c_X4_isTold hcn.2.1 hN8) rfl rfl rfl ?_
        refine V_eqB d_X8_least_8 (fun q => (bTF (c0) q).elim) (fun h8 => ?_)
        refine V_al0 d_X8_least_11 ?_
        refine V_getR d_X8_least_12 rfl rfl (by decide) rfl ?_
        refine V_il2 d_X8_least_15 ?_
        refine U_cv1 d_X8_least_16 (c_X4_isTold hcn.2.1 hN8) rfl rfl rfl ?_
        refine V_eqB d_X8_least_19 (fun h19 => ?_) (fun q => (bTF q (c1)).elim)
        refine V_ki d_X8_least_31 ?_
        refine U_cs1 d_X8_least_33 (c_X8_refusal) rfl ?_
        exact V_lret d_X8_least_36 rfl (by first | rfl | simp_all) rfl
      · intro S h
        obtain ⟨⟨hsz, hbs⟩, hcn, hmt, hhc, hhm, hsh, hfd⟩ := h
        obtain ⟨S1, m1, m2, m3⟩ := c_X9_areNights (G := G) (v := a) (v' := c) hmt hx
        refine ⟨S1, ?_, PQ_M m3⟩
        refine Rn_of hp_X9_least [some (.ref (gB G + 22)), some (.int a), some (.int c), some (.int j)] rfl (Nat.le_of_ble_eq_true rfl) (Nat.le_of_ble_eq_true rfl) ?_
        refine V_al0 d_X9_least_0 ?_
        refine V_il1 d_X9_least_1 ?_
        refine V_il2 d_X9_least_2 ?_
        refine U_cv2 d_X9_least_3 (m1) rfl rfl rfl ?_
        refine V_eqB d_X9_least_6 (fun h6 => ?_) (fun q => (bTF q ((by rw [c0, c1]; rfl))).elim)
        refine V_ki d_X9_least_28 ?_
        refine U_cs1 d_X9_least_30 (c_X9_no) rfl ?_
        exact V_lret d_X9_least_33 rfl (by first | rfl | simp_all) rfl
    | true =>
      cases c2 : inR j (nI 0) (nI 3) with
      | false =>
        refine ⟨(-9223372036854775808 : Int64) - (-2 : Int32).toInt64, ?_, ?_⟩
        · intro S h
          obtain ⟨⟨hsz, hbs⟩, hcn, hmt, hhc, hhm, hsh, hfd⟩ := h
          refine ⟨S, ?_, Ag.rf⟩
          refine Rn_of hp_X8_least [some (.ref (gB G + 0)), some (.int a), some (.int c), some (.int j)] rfl (Nat.le_of_ble_eq_true rfl) (Nat.le_of_ble_eq_true rfl) ?_
          refine V_al0 d_X8_least_0 ?_
          refine V_getR d_X8_least_1 rfl rfl (by decide) rfl ?_
          refine V_il1 d_X8_least_4 ?_
          refine U_cv1 d_X8_least_5 (c_X4_isTold hcn.2.1 hN8) rfl rfl rfl ?_
          refine V_eqB d_X8_least_8 (fun q => (bTF (c0) q).elim) (fun h8 => ?_)
          refine V_al0 d_X8_least_11 ?_
          refine V_getR d_X8_least_12 rfl rfl (by decide) rfl ?_
          refine V_il2 d_X8_least_15 ?_
          refine U_cv1 d_X8_least_16 (c_X4_isTold hcn.2.1 hN8) rfl rfl rfl ?_
          refine V_eqB d_X8_least_19 (fun q => (bTF (c1) q).elim) (fun h19 => ?_)
          refine V_il3 d_X8_least_22 ?_
          refine V_ki d_X8_least_23 ?_
          refine V_ki d_X8_least_24 ?_
          refine U_cs3 d_X8_least_25 (c_X8_within) rfl ?_
          refine V_neB d_X8_least_28 (fun q => (bTF q (c2)).elim) (fun h28 => ?_)
          refine V_ki d_X8_least_31 ?_
          refine U_cs1 d_X8_least_33 (c_X8_refusal) rfl ?_
          exact V_lret d_X8_least_36 rfl (by first | rfl | simp_all) rfl
        · intro S h
          obtain ⟨⟨hsz, hbs⟩, hcn, hmt, hhc, hhm, hsh, hfd⟩ := h
          obtain ⟨S1, m1, m2, m3⟩ := c_X9_areNights (G := G) (v := a) (v' := c) hmt hx
          refine ⟨S1, ?_, PQ_M m3⟩
          refine Rn_of hp_X9_least [some (.ref (gB G + 22)), some (.int a), some (.int c), some (.int j)] rfl (Nat.le_of_ble_eq_true rfl) (Nat.le_of_ble_eq_true rfl) ?_
          refine V_al0 d_X9_least_0 ?_
          refine V_il1 d_X9_least_1 ?_
          refine V_il2 d_X9_least_2 ?_
          refine U_cv2 d_X9_least_3 (m1) rfl rfl rfl ?_
          refine V_eqB d_X9_least_6 (fun q => (bTF ((by rw [c0, c1]; rfl)) q).elim) (fun h6 => ?_)
          refine V_il3 d_X9_least_9 ?_
          refine V_ki d_X9_least_10 ?_
          refine V_ki d_X9_least_11 ?_
          refine U_cs3 d_X9_least_12 (c_X9_in) rfl ?_
          refine V_eqB d_X9_least_15 (fun h15 => ?_) (fun q => (bTF q (c2)).elim)
          refine V_ki d_X9_least_28 ?_
          refine U_cs1 d_X9_least_30 (c_X9_no) rfl ?_
          exact V_lret d_X9_least_33 rfl (by first | rfl | simp_all) rfl
      | true =>
        obtain ⟨x, hxn, rfl⟩ := tolB_ex (by omega) c0
        obtain ⟨y, hyn, rfl⟩ := tolB_ex (by omega) c1
        obtain ⟨j, hj, rfl⟩ := inR_ex (by decide) c2
        exact ⟨_, g8_least hx hB hxn hyn hj, g9_least hx hB hxn hyn hj⟩
set_option maxRecDepth 100000 in
theorem g8_lamp {G : Gm} {b : Nat → Nat} {sz : Nat} {ft : Int32} {N : List (List Nat)} {w wy : Nat → Nat} {lk nd : Nat} {x y p i : Nat} (hx : TXT b sz ft N) (hB : HB w wy lk nd) (hxn : x < N.length) (hyn : y < N.length) (hp : p ≤ 16) (hi : i ≤ 5) : EX G M_X8_lamp [.ref (gB G + 0), .int (nI x), .int (nI y), .int (nI p), .int (nI i)] (some (.int (nI ((best (fun x' m => p * hh w wy lk nd (ni N x) x' m + (16 - p) * hh w wy lk nd (ni N y) x' m) (61 - nd - 0) 0 6).2 - 1) - nI ((best (fun x' m => p * hh w wy lk nd (ni N x) x' m + (16 - p) * hh w wy lk nd (ni N y) x' m) (61 - nd - 0) 0 i).2 - 1)))) b sz ft N w wy lk nd := by
  intro S h
  obtain ⟨⟨hsz, hbs⟩, hcn, hmt, hhc, hhm, hsh, hfd⟩ := h
  have hN := PR_wf hx.2.2
  have hN8 := hN.1
  obtain ⟨l1, l2⟩ := hB.2.2.1
  obtain ⟨n1, n2⟩ := hB.2.2.2
  have c0 : tolB (nI x) N.length = true := tolB_nI (by omega) hxn
  have c1 : tolB (nI y) N.length = true := tolB_nI (by omega) hyn
  have c2 : inR (nI p) (nI 0) (nI 16) = true := inR_T (by omega) (by decide)
  have c3 : inR (nI i) (nI 0) (nI 5) = true := inR_T (by omega) (by decide)
  obtain ⟨S1, t1, t2, t3⟩ := c_X6_seek (G := G) (pa := p) (pb := 16 - p) (m0 := 0) (lamp := 6) (lI := -1) hhc hB hcn hN hxn hyn (by omega) (by omega) (by omega) nI_l6
  have hpos := best_pos (g := (fun x' m => p * hh w wy lk nd (ni N x) x' m + (16 - p) * hh w wy lk nd (ni N y) x' m)) (k := 61 - nd - 0) (m0 := 0) (lamp := 6) (by omega)
  have hpt := c_X6_part (G := G) (j := 2) t2 hpos (by omega)
  have hhc1 := hhc.ag t3 (fun _ => rfl) (fun _ => rfl) (fun _ => rfl)
  have hcn1 := hcn.ag t3 (fun _ => rfl) (fun _ => rfl) (fun _ => rfl)
  obtain ⟨S2, u1, u2, u3⟩ := c_X6_seek (G := G) (pa := p) (pb := 16 - p) (m0 := 0) (lamp := i) (lI := nI i) hhc1 hB hcn1 hN hxn hyn (by omega) (by omega) (by omega) (nI_lx (by omega))
  have hpos2 := best_pos (g := (fun x' m => p * hh w wy lk nd (ni N x) x' m + (16 - p) * hh w wy lk nd (ni N y) x' m)) (k := 61 - nd - 0) (m0 := 0) (lamp := i) (by omega)
  have hpt2 := c_X6_part (G := G) (j := 2) u2 hpos2 (by omega)
  refine ⟨S2, ?_, (PQ_13 t3).tr (PQ_13 u3)⟩
  refine Rn_of hp_X8_lamp [some (.ref (gB G + 0)), some (.int (nI x)), some (.int (nI y)), some (.int (nI p)), some (.int (nI i)), none] rfl (Nat.le_of_ble_eq_true rfl) (Nat.le_of_ble_eq_true rfl) ?_
  refine V_al0 d_X8_lamp_0 ?_
  refine V_il1 d_X8_lamp_1 ?_
  refine V_il2 d_X8_lamp_2 ?_
  refine V_il3 d_X8_lamp_3 ?_
  refine U_cv3 d_X8_lamp_4 (c_X8_isLot hcn hN) rfl rfl rfl ?_
  refine V_eqB d_X8_lamp_7 (fun q => (bTF ((by rw [c0, c1, c2]; rfl)) q).elim) (fun h7 => ?_)
  refine V_il4 d_X8_lamp_10 ?_
  refine U_cs1 d_X8_lamp_12 (c_X8_isShed) rfl ?_
  refine V_neB d_X8_lamp_15 (fun h15 => ?_) (fun q => (bTF (c3) q).elim)
  refine V_al0 d_X8_lamp_21 ?_
  refine V_getR d_X8_lamp_22 rfl rfl (by decide) rfl ?_
  refine V_il1 d_X8_lamp_25 ?_
  refine V_il3 d_X8_lamp_26 ?_
  refine V_il2 d_X8_lamp_27 ?_
  refine V_ki d_X8_lamp_28 ?_
  refine V_il3 d_X8_lamp_30 ?_
  refine V_isubN d_X8_lamp_31 (hp) ?_
  refine V_ki d_X8_lamp_32 ?_
  refine V_ki d_X8_lamp_33 ?_
  refine U_cv6v d_X8_lamp_34 (t1) rfl rfl rfl ?_
  refine V_al0 d_X8_lamp_37 ?_
  refine V_getR d_X8_lamp_38 rfl rfl (by decide) rfl ?_
  refine V_ki d_X8_lamp_41 ?_
  refine U_cv1 d_X8_lamp_42 (hpt) rfl rfl rfl ?_
  refine V_is5 d_X8_lamp_45 rfl ?_
  refine V_al0 d_X8_lamp_47 ?_
  refine V_getR d_X8_lamp_48 rfl rfl (by decide) rfl ?_
  refine V_il1 d_X8_lamp_51 ?_
  refine V_il3 d_X8_lamp_52 ?_
  refine V_il2 d_X8_lamp_53 ?_
  refine V_ki d_X8_lamp_54 ?_
  refine V_il3 d_X8_lamp_56 ?_
  refine V_isubN d_X8_lamp_57 (hp) ?_
  refine V_ki d_X8_lamp_58 ?_
  refine V_il4 d_X8_lamp_59 ?_
  refine U_cv6v d_X8_lamp_61 (u1) rfl rfl rfl ?_
  refine V_il5 d_X8_lamp_64 ?_
  refine V_al0 d_X8_lamp_66 ?_
  refine V_getR d_X8_lamp_67 rfl rfl (by decide) rfl ?_
  refine V_ki d_X8_lamp_70 ?_
  refine U_cv1 d_X8_lamp_71 (hpt2) rfl rfl rfl ?_
  refine V_isub d_X8_lamp_74 ?_
  exact V_iret d_X8_lamp_75 rfl rfl rfl
set_option maxRecDepth 100000 in
theorem g9_lamp {G : Gm} {b : Nat → Nat} {sz : Nat} {ft : Int32} {N : List (List Nat)} {w wy : Nat → Nat} {lk nd : Nat} {x y p i : Nat} (hx : TXT b sz ft N) (hB : HB w wy lk nd) (hxn : x < N.length) (hyn : y < N.length) (hp : p ≤ 16) (hi : i ≤ 5) : EX G M_X9_lamp [.ref (gB G + 22), .int (nI x), .int (nI y), .int (nI p), .int (nI i)] (some (.int (nI ((best (fun x' m => p * hh w wy lk nd (ni N x) x' m + (16 - p) * hh w wy lk nd (ni N y) x' m) (61 - nd - 0) 0 6).2 - 1) - nI ((best (fun x' m => p * hh w wy lk nd (ni N x) x' m + (16 - p) * hh w wy lk nd (ni N y) x' m) (61 - nd - 0) 0 i).2 - 1)))) b sz ft N w wy lk nd := by
  intro S h
  obtain ⟨⟨hsz, hbs⟩, hcn, hmt, hhc, hhm, hsh, hfd⟩ := h
  have hN := PR_wf hx.2.2
  have hN8 := hN.1
  obtain ⟨l1, l2⟩ := hB.2.2.1
  obtain ⟨n1, n2⟩ := hB.2.2.2
  have c0 : tolB (nI x) N.length = true := tolB_nI (by omega) hxn
  have c1 : tolB (nI y) N.length = true := tolB_nI (by omega) hyn
  have c2 : inR (nI p) (nI 0) (nI 16) = true := inR_T (by omega) (by decide)
  have c3 : inR (nI i) (nI 0) (nI 5) = true := inR_T (by omega) (by decide)
  obtain ⟨S1, m1, m2, m3⟩ := c_X9_areNights (G := G) (v := nI x) (v' := nI y) hmt hx
  have hhm1 := hhm.ag m3 (fun _ => rfl) (fun _ => rfl) rfl rfl
  obtain ⟨S2, q1, q2⟩ := c_X9_lampOf (G := G) (x := i) hhm1 hB m2 hN hxn hyn hp (by omega)
  refine ⟨S2, ?_, (PQ_M m3).tr (PQ_X q2)⟩
  refine Rn_of hp_X9_lamp [some (.ref (gB G + 22)), some (.int (nI x)), some (.int (nI y)), some (.int (nI p)), some (.int (nI i))] rfl (Nat.le_of_ble_eq_true rfl) (Nat.le_of_ble_eq_true rfl) ?_
  refine V_al0 d_X9_lamp_0 ?_
  refine V_il1 d_X9_lamp_1 ?_
  refine V_il2 d_X9_lamp_2 ?_
  refine U_cv2 d_X9_lamp_3 (m1) rfl rfl rfl ?_
  refine V_eqB d_X9_lamp_6 (fun q => (bTF ((by rw [c0, c1]; rfl)) q).elim) (fun h6 => ?_)
  refine V_il3 d_X9_lamp_9 ?_
  refine V_ki d_X9_lamp_10 ?_
  refine V_ki d_X9_lamp_11 ?_
  refine U_cs3 d_X9_lamp_13 (c_X9_in) rfl ?_
  refine V_eqB d_X9_lamp_16 (fun q => (bTF (c2) q).elim) (fun h16 => ?_)
  refine V_il4 d_X9_lamp_19 ?_
  refine U_cs1 d_X9_lamp_21 (c_X9_isShed) rfl ?_
  refine V_eqB d_X9_lamp_24 (fun q => (bTF (c3) q).elim) (fun h24 => ?_)
  refine V_al0 d_X9_lamp_27 ?_
  refine V_il1 d_X9_lamp_28 ?_
  refine V_il2 d_X9_lamp_29 ?_
  refine V_il3 d_X9_lamp_30 ?_
  refine V_il4 d_X9_lamp_31 ?_
  refine U_cv4 d_X9_lamp_33 (q1) rfl rfl rfl ?_
  refine V_goto d_X9_lamp_36 ?_
  exact V_iret d_X9_lamp_41 rfl (by first | rfl | simp_all) rfl
set_option maxRecDepth 100000 in
theorem q_lamp {G : Gm} {b : Nat → Nat} {sz : Nat} {ft : Int32} {N : List (List Nat)} {w wy : Nat → Nat} {lk nd : Nat} {a c p i : Int32} (hx : TXT b sz ft N) (hB : HB w wy lk nd) : ∃ v : Int32, EX G M_X8_lamp [.ref (gB G + 0), .int a, .int c, .int p, .int i] (some (.int v)) b sz ft N w wy lk nd ∧ EX G M_X9_lamp [.ref (gB G + 22), .int a, .int c, .int p, .int i] (some (.int v)) b sz ft N w wy lk nd := by
  have hN := PR_wf hx.2.2
  have hN8 := hN.1
  obtain ⟨l1, l2⟩ := hB.2.2.1
  obtain ⟨n1, n2⟩ := hB.2.2.2
  cases c0 : tolB a N.length with
  | false =>
    refine ⟨-2, ?_, ?_⟩
    · intro S h
      obtain ⟨⟨hsz, hbs⟩, hcn, hmt, hhc, hhm, hsh, hfd⟩ := h
      refine ⟨S, ?_, Ag.rf⟩
      refine Rn_of hp_X8_lamp [some (.ref (gB G + 0)), some (.int a), some (.int c), some (.int p), some (.int i), none] rfl (Nat.le_of_ble_eq_true rfl) (Nat.le_of_ble_eq_true rfl) ?_
      refine V_al0 d_X8_lamp_0 ?_
      refine V_il1 d_X8_lamp_1 ?_
      refine V_il2 d_X8_lamp_2 ?_
      refine V_il3 d_X8_lamp_3 ?_
      refine U_cv3 d_X8_lamp_4 (c_X8_isLot hcn hN) rfl rfl rfl ?_
      refine V_eqB d_X8_lamp_7 (fun h7 => ?_) (fun q => (bTF q ((by rw [c0]; rfl))).elim)
      refine V_ki d_X8_lamp_18 ?_
      exact V_iret d_X8_lamp_20 rfl (by first | rfl | simp_all) rfl
    · intro S h
      obtain ⟨⟨hsz, hbs⟩, hcn, hmt, hhc, hhm, hsh, hfd⟩ := h
      obtain ⟨S1, m1, m2, m3⟩ := c_X9_areNights (G := G) (v := a) (v' := c) hmt hx
      refine ⟨S1, ?_, PQ_M m3⟩
      refine Rn_of hp_X9_lamp [some (.ref (gB G + 22)), some (.int a), some (.int c), some (.int p), some (.int i)] rfl (Nat.le_of_ble_eq_true rfl) (Nat.le_of_ble_eq_true rfl) ?_
      refine V_al0 d_X9_lamp_0 ?_
      refine V_il1 d_X9_lamp_1 ?_
      refine V_il2 d_X9_lamp_2 ?_
      refine U_cv2 d_X9_lamp_3 (m1) rfl rfl rfl ?_
      refine V_eqB d_X9_lamp_6 (fun h6 => ?_) (fun q => (bTF q ((by rw [c0]; rfl))).elim)
      refine V_ki d_X9_lamp_39 ?_
      exact V_iret d_X9_lamp_41 rfl (by first | rfl | simp_all) rfl
  | true =>
    cases c1 : tolB c N.length with
    | false =>
      refine ⟨-2, ?_, ?_⟩
      · intro S h
        obtain ⟨⟨hsz, hbs⟩, hcn, hmt, hhc, hhm, hsh, hfd⟩ := h
        refine ⟨S, ?_, Ag.rf⟩
        refine Rn_of hp_X8_lamp [some (.ref (gB G + 0)), some (.int a), some (.int c), some (.int p), some (.int i), none] rfl (Nat.le_of_ble_eq_true rfl) (Nat.le_of_ble_eq_true rfl) ?_
        refine V_al0 d_X8_lamp_0 ?_
        refine V_il1 d_X8_lamp_1 ?_
        refine V_il2 d_X8_lamp_2 ?_
        refine V_il3 d_X8_lamp_3 ?_
        refine U_cv3 d_X8_lamp_4 (c_X8_isLot hcn hN) rfl rfl rfl ?_
        refine V_eqB d_X8_lamp_7 (fun h7 => ?_) (fun q => (bTF q ((by rw [c0, c1]; rfl))).elim)
        refine V_ki d_X8_lamp_18 ?_
        exact V_iret d_X8_lamp_20 rfl (by first | rfl | simp_all) rfl
      · intro S h
        obtain ⟨⟨hsz, hbs⟩, hcn, hmt, hhc, hhm, hsh, hfd⟩ := h
        obtain ⟨S1, m1, m2, m3⟩ := c_X9_areNights (G := G) (v := a) (v' := c) hmt hx
        refine ⟨S1, ?_, PQ_M m3⟩
        refine Rn_of hp_X9_lamp [some (.ref (gB G + 22)), some (.int a), some (.int c), some (.int p), some (.int i)] rfl (Nat.le_of_ble_eq_true rfl) (Nat.le_of_ble_eq_true rfl) ?_
        refine V_al0 d_X9_lamp_0 ?_
        refine V_il1 d_X9_lamp_1 ?_
        refine V_il2 d_X9_lamp_2 ?_
        refine U_cv2 d_X9_lamp_3 (m1) rfl rfl rfl ?_
        refine V_eqB d_X9_lamp_6 (fun h6 => ?_) (fun q => (bTF q ((by rw [c0, c1]; rfl))).elim)
        refine V_ki d_X9_lamp_39 ?_
        exact V_iret d_X9_lamp_41 rfl (by first | rfl | simp_all) rfl
    | true =>
      cases c2 : inR p (nI 0) (nI 16) with
      | false =>
        refine ⟨-2, ?_, ?_⟩
        · intro S h
          obtain ⟨⟨hsz, hbs⟩, hcn, hmt, hhc, hhm, hsh, hfd⟩ := h
          refine ⟨S, ?_, Ag.rf⟩
          refine Rn_of hp_X8_lamp [some (.ref (gB G + 0)), some (.int a), some (.int c), some (.int p), some (.int i), none] rfl (Nat.le_of_ble_eq_true rfl) (Nat.le_of_ble_eq_true rfl) ?_
          refine V_al0 d_X8_lamp_0 ?_
          refine V_il1 d_X8_lamp_1 ?_
          refine V_il2 d_X8_lamp_2 ?_
          refine V_il3 d_X8_lamp_3 ?_
          refine U_cv3 d_X8_lamp_4 (c_X8_isLot hcn hN) rfl rfl rfl ?_
          refine V_eqB d_X8_lamp_7 (fun h7 => ?_) (fun q => (bTF q ((by rw [c0, c1, c2]; rfl))).elim)
          refine V_ki d_X8_lamp_18 ?_
          exact V_iret d_X8_lamp_20 rfl (by first | rfl | simp_all) rfl
        · intro S h
          obtain ⟨⟨hsz, hbs⟩, hcn, hmt, hhc, hhm, hsh, hfd⟩ := h
          obtain ⟨S1, m1, m2, m3⟩ := c_X9_areNights (G := G) (v := a) (v' := c) hmt hx
          refine ⟨S1, ?_, PQ_M m3⟩
          refine Rn_of hp_X9_lamp [some (.ref (gB G + 22)), some (.int a), some (.int c), some (.int p), some (.int i)] rfl (Nat.le_of_ble_eq_true rfl) (Nat.le_of_ble_eq_true rfl) ?_
          refine V_al0 d_X9_lamp_0 ?_
          refine V_il1 d_X9_lamp_1 ?_
          refine V_il2 d_X9_lamp_2 ?_
          refine U_cv2 d_X9_lamp_3 (m1) rfl rfl rfl ?_
          refine V_eqB d_X9_lamp_6 (fun q => (bTF ((by rw [c0, c1]; rfl)) q).elim) (fun h6 => ?_)
          refine V_il3 d_X9_lamp_9 ?_
          refine V_ki d_X9_lamp_10 ?_
          refine V_ki d_X9_lamp_11 ?_
          refine U_cs3 d_X9_lamp_13 (c_X9_in) rfl ?_
          refine V_eqB d_X9_lamp_16 (fun h16 => ?_) (fun q => (bTF q (c2)).elim)
          refine V_ki d_X9_lamp_39 ?_
          exact V_iret d_X9_lamp_41 rfl (by first | rfl | simp_all) rfl
      | true =>
        cases c3 : inR i (nI 0) (nI 5) with
        | false =>
          refine ⟨-2, ?_, ?_⟩
          · intro S h
            obtain ⟨⟨hsz, hbs⟩, hcn, hmt, hhc, hhm, hsh, hfd⟩ := h
            refine ⟨S, ?_, Ag.rf⟩
            refine Rn_of hp_X8_lamp [some (.ref (gB G + 0)), some (.int a), some (.int c), some (.int p), some (.int i), none] rfl (Nat.le_of_ble_eq_true rfl) (Nat.le_of_ble_eq_true rfl) ?_
            refine V_al0 d_X8_lamp_0 ?_
            refine V_il1 d_X8_lamp_1 ?_
            refine V_il2 d_X8_lamp_2 ?_
            refine V_il3 d_X8_lamp_3 ?_
            refine U_cv3 d_X8_lamp_4 (c_X8_isLot hcn hN) rfl rfl rfl ?_
            refine V_eqB d_X8_lamp_7 (fun q => (bTF ((by rw [c0, c1, c2]; rfl)) q).elim) (fun h7 => ?_)
            refine V_il4 d_X8_lamp_10 ?_
            refine U_cs1 d_X8_lamp_12 (c_X8_isShed) rfl ?_
            refine V_neB d_X8_lamp_15 (fun q => (bTF q (c3)).elim) (fun h15 => ?_)
            refine V_ki d_X8_lamp_18 ?_
            exact V_iret d_X8_lamp_20 rfl (by first | rfl | simp_all) rfl
          · intro S h
            obtain ⟨⟨hsz, hbs⟩, hcn, hmt, hhc, hhm, hsh, hfd⟩ := h
            obtain ⟨S1, m1, m2, m3⟩ := c_X9_areNights (G := G) (v := a) (v' := c) hmt hx
            refine ⟨S1, ?_, PQ_M m3⟩
            refine Rn_of hp_X9_lamp [some (.ref (gB G + 22)), some (.int a), some (.int c), some (.int p), some (.int i)] rfl (Nat.le_of_ble_eq_true rfl) (Nat.le_of_ble_eq_true rfl) ?_
            refine V_al0 d_X9_lamp_0 ?_
            refine V_il1 d_X9_lamp_1 ?_
            refine V_il2 d_X9_lamp_2 ?_
            refine U_cv2 d_X9_lamp_3 (m1) rfl rfl rfl ?_
            refine V_eqB d_X9_lamp_6 (fun q => (bTF ((by rw [c0, c1]; rfl)) q).elim) (fun h6 => ?_)
            refine V_il3 d_X9_lamp_9 ?_
            refine V_ki d_X9_lamp_10 ?_
            refine V_ki d_X9_lamp_11 ?_
            refine U_cs3 d_X9_lamp_13 (c_X9_in) rfl ?_
            refine V_eqB d_X9_lamp_16 (fun q => (bTF (c2) q).elim) (fun h16 => ?_)
            refine V_il4 d_X9_lamp_19 ?_
            refine U_cs1 d_X9_lamp_21 (c_X9_isShed) rfl ?_
            refine V_eqB d_X9_lamp_24 (fun h24 => ?_) (fun q => (bTF q (c3)).elim)
            refine V_ki d_X9_lamp_39 ?_
            exact V_iret d_X9_lamp_41 rfl (by first | rfl | simp_all) rfl
        | true =>
          obtain ⟨x, hxn, rfl⟩ := tolB_ex (by omega) c0
          obtain ⟨y, hyn, rfl⟩ := tolB_ex (by omega) c1
          obtain ⟨p, hp, rfl⟩ := inR_ex (by decide) c2
          obtain ⟨i, hi, rfl⟩ := inR_ex (by decide) c3
          exact ⟨_, g8_lamp hx hB hxn hyn hp hi, g9_lamp hx hB hxn hyn hp hi⟩
set_option maxRecDepth 100000 in
theorem g8_learn {G : Gm} {b : Nat → Nat} {sz : Nat} {ft : Int32} {N : List (List Nat)} {w wy : Nat → Nat} {lk nd : Nat} {x y n j : Nat} (hx : TXT b sz ft N) (hB : HB w wy lk nd) (hxn : x < N.length) (hyn : y < N.length) (hn1 : 1 ≤ n) (hn : n ≤ 99) (hj : j ≤ 1) : EX G M_X8_learn [.ref (gB G + 0), .int (nI x), .int (nI y), .int (nI n), .int (nI j)] (some (.int (nI (if j = 0 then (lnF (hh w wy lk nd (ni N x)) (hh w wy lk nd (ni N y)) (61 - nd) n).1 else (lnF (hh w wy lk nd (ni N x)) (hh w wy lk nd (ni N y)) (61 - nd) n).2.1)))) b sz ft N w wy lk nd := by
  intro S h
  obtain ⟨⟨hsz, hbs⟩, hcn, hmt, hhc, hhm, hsh, hfd⟩ := h
  have hN := PR_wf hx.2.2
  have hN8 := hN.1
  obtain ⟨l1, l2⟩ := hB.2.2.1
  obtain ⟨n1, n2⟩ := hB.2.2.2
  have c0 : tolB (nI x) N.length = true := tolB_nI (by omega) hxn
  have c1 : tolB (nI y) N.length = true := tolB_nI (by omega) hyn
  have c2 : inR (nI n) (nI 1) (nI 99) = true := in1_T hn1 hn (by decide)
  have c3 : inR (nI j) (nI 0) (nI 1) = true := inR_T (by omega) (by decide)
  obtain ⟨S1, t1, t2, t3, t4⟩ := c_X6_learnBy (G := G) hhc hB hcn hN hxn hyn hn
  refine ⟨S1, ?_, PQ_13a t4⟩
  refine Rn_of hp_X8_learn [some (.ref (gB G + 0)), some (.int (nI x)), some (.int (nI y)), some (.int (nI n)), some (.int (nI j))] rfl (Nat.le_of_ble_eq_true rfl) (Nat.le_of_ble_eq_true rfl) ?_
  refine V_al0 d_X8_learn_0 ?_
  refine V_getR d_X8_learn_1 rfl rfl (by decide) rfl ?_
  refine V_il1 d_X8_learn_4 ?_
  refine U_cv1 d_X8_learn_5 (c_X4_isTold hcn.2.1 hN8) rfl rfl rfl ?_
  refine V_eqB d_X8_learn_8 (fun q => (bTF (c0) q).elim) (fun h8 => ?_)
  refine V_al0 d_X8_learn_11 ?_
  refine V_getR d_X8_learn_12 rfl rfl (by decide) rfl ?_
  refine V_il2 d_X8_learn_15 ?_
  refine U_cv1 d_X8_learn_16 (c_X4_isTold hcn.2.1 hN8) rfl rfl rfl ?_
  refine V_eqB d_X8_learn_19 (fun q => (bTF (c1) q).elim) (fun h19 => ?_)
  refine V_il3 d_X8_learn_22 ?_
  refine V_ki d_X8_learn_23 ?_
  refine V_ki d_X8_learn_24 ?_
  refine U_cs3 d_X8_learn_26 (c_X8_within) rfl ?_
  refine V_eqB d_X8_learn_29 (fun q => (bTF (c2) q).elim) (fun h29 => ?_)
  refine V_il4 d_X8_learn_32 ?_
  refine V_ki d_X8_learn_34 ?_
  refine V_ki d_X8_learn_35 ?_
  refine U_cs3 d_X8_learn_36 (c_X8_within) rfl ?_
  refine V_neB d_X8_learn_39 (fun h39 => ?_) (fun q => (bTF (c3) q).elim)
  refine V_al0 d_X8_learn_45 ?_
  refine V_getR d_X8_learn_46 rfl rfl (by decide) rfl ?_
  refine V_il1 d_X8_learn_49 ?_
  refine V_il2 d_X8_learn_50 ?_
  refine V_il3 d_X8_learn_51 ?_
  refine U_cv3v d_X8_learn_52 (t1) rfl rfl rfl ?_
  refine V_il4 d_X8_learn_55 ?_
  refine U_if_neN d_X8_learn_57 (by omega) (fun h57 => ?_) (fun h57 => ?_)
  · refine V_al0 d_X8_learn_70 ?_
    refine V_getR d_X8_learn_71 rfl rfl (by decide) rfl ?_
    refine V_getIe d_X8_learn_74 rfl rfl (by decide) (t3) ?_
    exact V_iret d_X8_learn_77 rfl (by first | rw [if_pos h57] | rw [if_neg h57]) rfl
  · refine V_al0 d_X8_learn_60 ?_
    refine V_getR d_X8_learn_61 rfl rfl (by decide) rfl ?_
    refine V_getIe d_X8_learn_64 rfl rfl (by decide) (t2) ?_
    refine V_goto d_X8_learn_67 ?_
    exact V_iret d_X8_learn_77 rfl (by first | rw [if_pos h57] | rw [if_neg h57]) rfl
set_option maxRecDepth 100000 in
theorem g9_learn {G : Gm} {b : Nat → Nat} {sz : Nat} {ft : Int32} {N : List (List Nat)} {w wy : Nat → Nat} {lk nd : Nat} {x y n j : Nat} (hx : TXT b sz ft N) (hB : HB w wy lk nd) (hxn : x < N.length) (hyn : y < N.length) (hn1 : 1 ≤ n) (hn : n ≤ 99) (hj : j ≤ 1) : EX G M_X9_learn [.ref (gB G + 22), .int (nI x), .int (nI y), .int (nI n), .int (nI j)] (some (.int (nI (if j = 0 then (lnF (hh w wy lk nd (ni N x)) (hh w wy lk nd (ni N y)) (61 - nd) n).1 else (lnF (hh w wy lk nd (ni N x)) (hh w wy lk nd (ni N y)) (61 - nd) n).2.1)))) b sz ft N w wy lk nd := by
  intro S h
  obtain ⟨⟨hsz, hbs⟩, hcn, hmt, hhc, hhm, hsh, hfd⟩ := h
  have hN := PR_wf hx.2.2
  have hN8 := hN.1
  obtain ⟨l1, l2⟩ := hB.2.2.1
  obtain ⟨n1, n2⟩ := hB.2.2.2
  have c0 : tolB (nI x) N.length = true := tolB_nI (by omega) hxn
  have c1 : tolB (nI y) N.length = true := tolB_nI (by omega) hyn
  have c2 : inR (nI n) (nI 1) (nI 99) = true := in1_T hn1 hn (by decide)
  have c3 : inR (nI j) (nI 0) (nI 1) = true := inR_T (by omega) (by decide)
  obtain ⟨S1, m1, m2, m3⟩ := c_X9_areNights (G := G) (v := nI x) (v' := nI y) hmt hx
  have hhm1 := hhm.ag m3 (fun _ => rfl) (fun _ => rfl) rfl rfl
  obtain ⟨S2, q1, q2⟩ := c_X9_learnOf (G := G) hhm1 hB m2 hN hxn hyn hn hj
  refine ⟨S2, ?_, (PQ_M m3).tr (PQ_X q2)⟩
  refine Rn_of hp_X9_learn [some (.ref (gB G + 22)), some (.int (nI x)), some (.int (nI y)), some (.int (nI n)), some (.int (nI j))] rfl (Nat.le_of_ble_eq_true rfl) (Nat.le_of_ble_eq_true rfl) ?_
  refine V_al0 d_X9_learn_0 ?_
  refine V_il1 d_X9_learn_1 ?_
  refine V_il2 d_X9_learn_2 ?_
  refine U_cv2 d_X9_learn_3 (m1) rfl rfl rfl ?_
  refine V_eqB d_X9_learn_6 (fun q => (bTF ((by rw [c0, c1]; rfl)) q).elim) (fun h6 => ?_)
  refine V_il3 d_X9_learn_9 ?_
  refine V_ki d_X9_learn_10 ?_
  refine V_ki d_X9_learn_11 ?_
  refine U_cs3 d_X9_learn_13 (c_X9_in) rfl ?_
  refine V_eqB d_X9_learn_16 (fun q => (bTF (c2) q).elim) (fun h16 => ?_)
  refine V_il4 d_X9_learn_19 ?_
  refine V_ki d_X9_learn_21 ?_
  refine V_ki d_X9_learn_22 ?_
  refine U_cs3 d_X9_learn_23 (c_X9_in) rfl ?_
  refine V_eqB d_X9_learn_26 (fun q => (bTF (c3) q).elim) (fun h26 => ?_)
  refine V_al0 d_X9_learn_29 ?_
  refine V_il1 d_X9_learn_30 ?_
  refine V_il2 d_X9_learn_31 ?_
  refine V_il3 d_X9_learn_32 ?_
  refine V_il4 d_X9_learn_33 ?_
  refine U_cv4 d_X9_learn_35 (q1) rfl rfl rfl ?_
  refine V_goto d_X9_learn_38 ?_
  exact V_iret d_X9_learn_43 rfl (by first | rfl | simp_all) rfl
set_option maxRecDepth 100000 in
theorem q_learn {G : Gm} {b : Nat → Nat} {sz : Nat} {ft : Int32} {N : List (List Nat)} {w wy : Nat → Nat} {lk nd : Nat} {a c u j : Int32} (hx : TXT b sz ft N) (hB : HB w wy lk nd) : ∃ v : Int32, EX G M_X8_learn [.ref (gB G + 0), .int a, .int c, .int u, .int j] (some (.int v)) b sz ft N w wy lk nd ∧ EX G M_X9_learn [.ref (gB G + 22), .int a, .int c, .int u, .int j] (some (.int v)) b sz ft N w wy lk nd := by
  have hN := PR_wf hx.2.2
  have hN8 := hN.1
  obtain ⟨l1, l2⟩ := hB.2.2.1
  obtain ⟨n1, n2⟩ := hB.2.2.2
  cases c0 : tolB a N.length with
  | false =>
    refine ⟨-2, ?_, ?_⟩
    · intro S h
      obtain ⟨⟨hsz, hbs⟩, hcn, hmt, hhc, hhm, hsh, hfd⟩ := h
      refine ⟨S, ?_, Ag.rf⟩
      refine Rn_of hp_X8_learn [some (.ref (gB G + 0)), some (.int a), some (.int c), some (.int u), some (.int j)] rfl (Nat.le_of_ble_eq_true rfl) (Nat.le_of_ble_eq_true rfl) ?_
      refine V_al0 d_X8_learn_0 ?_
      refine V_getR d_X8_learn_1 rfl rfl (by decide) rfl ?_
      refine V_il1 d_X8_learn_4 ?_
      refine U_cv1 d_X8_learn_5 (c_X4_isTold hcn.2.1 hN8) rfl rfl rfl ?_
      refine V_eqB d_X8_learn_8 (fun h8 => ?_) (fun q => (bTF q (c0)).elim)
      refine V_ki d_X8_learn_42 ?_
      exact V_iret d_X8_learn_44 rfl (by first | rfl | simp_all) rfl
    · intro S h
      obtain ⟨⟨hsz, hbs⟩, hcn, hmt, hhc, hhm, hsh, hfd⟩ := h
      obtain ⟨S1, m1, m2, m3⟩ := c_X9_areNights (G := G) (v := a) (v' := c) hmt hx
      refine ⟨S1, ?_, PQ_M m3⟩
      refine Rn_of hp_X9_learn [some (.ref (gB G + 22)), some (.int a), some (.int c), some (.int u), some (.int j)] rfl (Nat.le_of_ble_eq_true rfl) (Nat.le_of_ble_eq_true rfl) ?_
      refine V_al0 d_X9_learn_0 ?_
      refine V_il1 d_X9_learn_1 ?_
      refine V_il2 d_X9_learn_2 ?_
      refine U_cv2 d_X9_learn_3 (m1) rfl rfl rfl ?_
      refine V_eqB d_X9_learn_6 (fun h6 => ?_) (fun q => (bTF q ((by rw [c0]; rfl))).elim)
      refine V_ki d_X9_learn_41 ?_
      exact V_iret d_X9_learn_43 rfl (by first | rfl | simp_all) rfl
  | true =>
    cases c1 : tolB c N.length with
    | false =>
      refine ⟨-2, ?_, ?_⟩
      · intro S h
        obtain ⟨⟨hsz, hbs⟩, hcn, hmt, hhc, hhm, hsh, hfd⟩ := h
        refine ⟨S, ?_, Ag.rf⟩
        refine Rn_of hp_X8_learn [some (.ref (gB G + 0)), some (.int a), some (.int c), some (.int u), some (.int j)] rfl (Nat.le_of_ble_eq_true rfl) (Nat.le_of_ble_eq_true rfl) ?_
        refine V_al0 d_X8_learn_0 ?_
        refine V_getR d_X8_learn_1 rfl rfl (by decide) rfl ?_
        refine V_il1 d_X8_learn_4 ?_
        refine U_cv1 d_X8_learn_5 (c_X4_isTold hcn.2.1 hN8) rfl rfl rfl ?_
        refine V_eqB d_X8_learn_8 (fun q => (bTF (c0) q).elim) (fun h8 => ?_)
        refine V_al0 d_X8_learn_11 ?_
        refine V_getR d_X8_learn_12 rfl rfl (by decide) rfl ?_
        refine V_il2 d_X8_learn_15 ?_
        refine U_cv1 d_X8_learn_16 (c_X4_isTold hcn.2.1 hN8) rfl rfl rfl ?_
        refine V_eqB d_X8_learn_19 (fun h19 => ?_) (fun q => (bTF q (c1)).elim)
        refine V_ki d_X8_learn_42 ?_
        exact V_iret d_X8_learn_44 rfl (by first | rfl | simp_all) rfl
      · intro S h
        obtain ⟨⟨hsz, hbs⟩, hcn, hmt, hhc, hhm, hsh, hfd⟩ := h
        obtain ⟨S1, m1, m2, m3⟩ := c_X9_areNights (G := G) (v := a) (v' := c) hmt hx
        refine ⟨S1, ?_, PQ_M m3⟩
        refine Rn_of hp_X9_learn [some (.ref (gB G + 22)), some (.int a), some (.int c), some (.int u), some (.int j)] rfl (Nat.le_of_ble_eq_true rfl) (Nat.le_of_ble_eq_true rfl) ?_
        refine V_al0 d_X9_learn_0 ?_
        refine V_il1 d_X9_learn_1 ?_
        refine V_il2 d_X9_learn_2 ?_
        refine U_cv2 d_X9_learn_3 (m1) rfl rfl rfl ?_
        refine V_eqB d_X9_learn_6 (fun h6 => ?_) (fun q => (bTF q ((by rw [c0, c1]; rfl))).elim)
        refine V_ki d_X9_learn_41 ?_
        exact V_iret d_X9_learn_43 rfl (by first | rfl | simp_all) rfl
    | true =>
      cases c2 : inR u (nI 1) (nI 99) with
      | false =>
        refine ⟨-2, ?_, ?_⟩
        · intro S h
          obtain ⟨⟨hsz, hbs⟩, hcn, hmt, hhc, hhm, hsh, hfd⟩ := h
          refine ⟨S, ?_, Ag.rf⟩
          refine Rn_of hp_X8_learn [some (.ref (gB G + 0)), some (.int a), some (.int c), some (.int u), some (.int j)] rfl (Nat.le_of_ble_eq_true rfl) (Nat.le_of_ble_eq_true rfl) ?_
          refine V_al0 d_X8_learn_0 ?_
          refine V_getR d_X8_learn_1 rfl rfl (by decide) rfl ?_
          refine V_il1 d_X8_learn_4 ?_
          refine U_cv1 d_X8_learn_5 (c_X4_isTold hcn.2.1 hN8) rfl rfl rfl ?_
          refine V_eqB d_X8_learn_8 (fun q => (bTF (c0) q).elim) (fun h8 => ?_)
          refine V_al0 d_X8_learn_11 ?_
          refine V_getR d_X8_learn_12 rfl rfl (by decide) rfl ?_
          refine V_il2 d_X8_learn_15 ?_
          refine U_cv1 d_X8_learn_16 (c_X4_isTold hcn.2.1 hN8) rfl rfl rfl ?_
          refine V_eqB d_X8_learn_19 (fun q => (bTF (c1) q).elim) (fun h19 => ?_)
          refine V_il3 d_X8_learn_22 ?_
          refine V_ki d_X8_learn_23 ?_
          refine V_ki d_X8_learn_24 ?_
          refine U_cs3 d_X8_learn_26 (c_X8_within) rfl ?_
          refine V_eqB d_X8_learn_29 (fun h29 => ?_) (fun q => (bTF q (c2)).elim)
          refine V_ki d_X8_learn_42 ?_
          exact V_iret d_X8_learn_44 rfl (by first | rfl | simp_all) rfl
        · intro S h
          obtain ⟨⟨hsz, hbs⟩, hcn, hmt, hhc, hhm, hsh, hfd⟩ := h
          obtain ⟨S1, m1, m2, m3⟩ := c_X9_areNights (G := G) (v := a) (v' := c) hmt hx
          refine ⟨S1, ?_, PQ_M m3⟩
          refine Rn_of hp_X9_learn [some (.ref (gB G + 22)), some (.int a), some (.int c), some (.int u), some (.int j)] rfl (Nat.le_of_ble_eq_true rfl) (Nat.le_of_ble_eq_true rfl) ?_
          refine V_al0 d_X9_learn_0 ?_
          refine V_il1 d_X9_learn_1 ?_
          refine V_il2 d_X9_learn_2 ?_
          refine U_cv2 d_X9_learn_3 (m1) rfl rfl rfl ?_
          refine V_eqB d_X9_learn_6 (fun q => (bTF ((by rw [c0, c1]; rfl)) q).elim) (fun h6 => ?_)
          refine V_il3 d_X9_learn_9 ?_
          refine V_ki d_X9_learn_10 ?_
          refine V_ki d_X9_learn_11 ?_
          refine U_cs3 d_X9_learn_13 (c_X9_in) rfl ?_
          refine V_eqB d_X9_learn_16 (fun h16 => ?_) (fun q => (bTF q (c2)).elim)
          refine V_ki d_X9_learn_41 ?_
          exact V_iret d_X9_learn_43 rfl (by first | rfl | simp_all) rfl
      | true =>
        cases c3 : inR j (nI 0) (nI 1) with
        | false =>
          refine ⟨-2, ?_, ?_⟩
          · intro S h
            obtain ⟨⟨hsz, hbs⟩, hcn, hmt, hhc, hhm, hsh, hfd⟩ := h
            refine ⟨S, ?_, Ag.rf⟩
            refine Rn_of hp_X8_learn [some (.ref (gB G + 0)), some (.int a), some (.int c), some (.int u), some (.int j)] rfl (Nat.le_of_ble_eq_true rfl) (Nat.le_of_ble_eq_true rfl) ?_
            refine V_al0 d_X8_learn_0 ?_
            refine V_getR d_X8_learn_1 rfl rfl (by decide) rfl ?_
            refine V_il1 d_X8_learn_4 ?_
            refine U_cv1 d_X8_learn_5 (c_X4_isTold hcn.2.1 hN8) rfl rfl rfl ?_
            refine V_eqB d_X8_learn_8 (fun q => (bTF (c0) q).elim) (fun h8 => ?_)
            refine V_al0 d_X8_learn_11 ?_
            refine V_getR d_X8_learn_12 rfl rfl (by decide) rfl ?_
            refine V_il2 d_X8_learn_15 ?_
            refine U_cv1 d_X8_learn_16 (c_X4_isTold hcn.2.1 hN8) rfl rfl rfl ?_
            refine V_eqB d_X8_learn_19 (fun q => (bTF (c1) q).elim) (fun h19 => ?_)
            refine V_il3 d_X8_learn_22 ?_
            refine V_ki d_X8_learn_23 ?_
            refine V_ki d_X8_learn_24 ?_
            refine U_cs3 d_X8_learn_26 (c_X8_within) rfl ?_
            refine V_eqB d_X8_learn_29 (fun q => (bTF (c2) q).elim) (fun h29 => ?_)
            refine V_il4 d_X8_learn_32 ?_
            refine V_ki d_X8_learn_34 ?_
            refine V_ki d_X8_learn_35 ?_
            refine U_cs3 d_X8_learn_36 (c_X8_within) rfl ?_
            refine V_neB d_X8_learn_39 (fun q => (bTF q (c3)).elim) (fun h39 => ?_)
            refine V_ki d_X8_learn_42 ?_
            exact V_iret d_X8_learn_44 rfl (by first | rfl | simp_all) rfl
          · intro S h
            obtain ⟨⟨hsz, hbs⟩, hcn, hmt, hhc, hhm, hsh, hfd⟩ := h
            obtain ⟨S1, m1, m2, m3⟩ := c_X9_areNights (G := G) (v := a) (v' := c) hmt hx
            refine ⟨S1, ?_, PQ_M m3⟩
            refine Rn_of hp_X9_learn [some (.ref (gB G + 22)), some (.int a), some (.int c), some (.int u), some (.int j)] rfl (Nat.le_of_ble_eq_true rfl) (Nat.le_of_ble_eq_true rfl) ?_
            refine V_al0 d_X9_learn_0 ?_
            refine V_il1 d_X9_learn_1 ?_
            refine V_il2 d_X9_learn_2 ?_
            refine U_cv2 d_X9_learn_3 (m1) rfl rfl rfl ?_
            refine V_eqB d_X9_learn_6 (fun q => (bTF ((by rw [c0, c1]; rfl)) q).elim) (fun h6 => ?_)
            refine V_il3 d_X9_learn_9 ?_
            refine V_ki d_X9_learn_10 ?_
            refine V_ki d_X9_learn_11 ?_
            refine U_cs3 d_X9_learn_13 (c_X9_in) rfl ?_
            refine V_eqB d_X9_learn_16 (fun q => (bTF (c2) q).elim) (fun h16 => ?_)
            refine V_il4 d_X9_learn_19 ?_
            refine V_ki d_X9_learn_21 ?_
            refine V_ki d_X9_learn_22 ?_
            refine U_cs3 d_X9_learn_23 (c_X9_in) rfl ?_
            refine V_eqB d_X9_learn_26 (fun h26 => ?_) (fun q => (bTF q (c3)).elim)
            refine V_ki d_X9_learn_41 ?_
            exact V_iret d_X9_learn_43 rfl (by first | rfl | simp_all) rfl
        | true =>
          obtain ⟨x, hxn, rfl⟩ := tolB_ex (by omega) c0
          obtain ⟨y, hyn, rfl⟩ := tolB_ex (by omega) c1
          obtain ⟨n, hn1, hn, rfl⟩ := in1_ex (by decide) c2
          obtain ⟨j, hj, rfl⟩ := inR_ex (by decide) c3
          exact ⟨_, g8_learn hx hB hxn hyn hn1 hn hj, g9_learn hx hB hxn hyn hn1 hn hj⟩
set_option maxRecDepth 100000 in
theorem g8_dice {G : Gm} {b : Nat → Nat} {sz : Nat} {ft : Int32} {N : List (List Nat)} {w wy : Nat → Nat} {lk nd : Nat} {n p : Nat} {wI : Int32} {r : Int64} (hx : TXT b sz ft N) (hB : HB w wy lk nd) (hn : n < N.length) (hp : p ≤ 16) (hr : (wI = -1 ∧ r = lN (alN N n N.length)) ∨ ∃ j, j < 2 ∧ wI = nI j ∧ r = lN (if j = 0 then (chF p (alN N n N.length) (N.length - alN N n N.length)).1 else (chF p (alN N n N.length) (N.length - alN N n N.length)).2)) : EX G M_X8_dice [.ref (gB G + 0), .int (nI n), .int (nI p), .int wI] (some (.long (r))) b sz ft N w wy lk nd := by
  intro S h
  obtain ⟨⟨hsz, hbs⟩, hcn, hmt, hhc, hhm, hsh, hfd⟩ := h
  have hN := PR_wf hx.2.2
  have hN8 := hN.1
  obtain ⟨l1, l2⟩ := hB.2.2.1
  obtain ⟨n1, n2⟩ := hB.2.2.2
  have c0 : tolB (nI n) N.length = true := tolB_nI (by omega) hn
  have c1 : inR (nI p) (nI 0) (nI 16) = true := inR_T (by omega) (by decide)
  have c2 : inR wI (-1) (nI 1) = true := (by rcases hr with ⟨e, _⟩ | ⟨j, hj, e, _⟩ <;> rw [e] <;> first | decide | exact m1_inN j hj)
  have hal := alN_le N n N.length
  rcases hr with ⟨e1, e2⟩ | ⟨j, hj, e1, e2⟩
  · subst e1; subst e2
    refine ⟨S, ?_, Ag.rf⟩
    refine Rn_of hp_X8_dice [some (.ref (gB G + 0)), some (.int (nI n)), some (.int (nI p)), some (.int (-1))] rfl (Nat.le_of_ble_eq_true rfl) (Nat.le_of_ble_eq_true rfl) ?_
    refine V_al0 d_X8_dice_0 ?_
    refine V_getR d_X8_dice_1 rfl rfl (by decide) rfl ?_
    refine V_il1 d_X8_dice_4 ?_
    refine U_cv1 d_X8_dice_5 (c_X4_isTold hcn.2.1 hN8) rfl rfl rfl ?_
    refine V_eqB d_X8_dice_8 (fun q => (bTF (c0) q).elim) (fun h8 => ?_)
    refine V_il2 d_X8_dice_11 ?_
    refine U_cs1 d_X8_dice_12 (c_X8_isSixteenths) rfl ?_
    refine V_eqB d_X8_dice_15 (fun q => (bTF (c1) q).elim) (fun h15 => ?_)
    refine V_il3 d_X8_dice_18 ?_
    refine V_ki d_X8_dice_19 ?_
    refine V_ki d_X8_dice_20 ?_
    refine U_cs3 d_X8_dice_21 (c_X8_within) rfl ?_
    refine V_neB d_X8_dice_24 (fun h24 => ?_) (fun q => (bTF (c2) q).elim)
    refine V_il3 d_X8_dice_33 ?_
    refine V_ki d_X8_dice_34 ?_
    refine V_ic_ne d_X8_dice_35 (fun q => absurd rfl q) (fun h35 => ?_)
    refine V_al0 d_X8_dice_38 ?_
    refine V_getR d_X8_dice_39 rfl rfl (by decide) rfl ?_
    refine V_il1 d_X8_dice_42 ?_
    refine U_cv1 d_X8_dice_43 (c_X1_alike hcn hN hn) rfl rfl rfl ?_
    refine V_i2lN d_X8_dice_46 (by omega) ?_
    refine V_goto d_X8_dice_47 ?_
    exact V_lret d_X8_dice_63 rfl (by first | rfl | simp_all) rfl
  · subst e1; subst e2
    obtain ⟨S1, t1, t2, t3, t4⟩ := c_X1_chance (G := G) hcn hN hn hp
    have hpt := c_X2_part (G := G) (S := S1) (k := 16) (j := j) rfl (by decide) (by omega)
    have ej : S1.2 16 (if j = 0 then 0 else 1) = lN (if j = 0 then (chF p (alN N n N.length) (N.length - alN N n N.length)).1 else (chF p (alN N n N.length) (N.length - alN N n N.length)).2) := by
      rcases (show j = 0 ∨ j = 1 by omega) with rfl | rfl
      · exact t2
      · exact t3
    rw [ej] at hpt
    refine ⟨S1, ?_, ⟨trivial, fun a b _ => by rw [t4]⟩⟩
    refine Rn_of hp_X8_dice [some (.ref (gB G + 0)), some (.int (nI n)), some (.int (nI p)), some (.int (nI j))] rfl (Nat.le_of_ble_eq_true rfl) (Nat.le_of_ble_eq_true rfl) ?_
    refine V_al0 d_X8_dice_0 ?_
    refine V_getR d_X8_dice_1 rfl rfl (by decide) rfl ?_
    refine V_il1 d_X8_dice_4 ?_
    refine U_cv1 d_X8_dice_5 (c_X4_isTold hcn.2.1 hN8) rfl rfl rfl ?_
    refine V_eqB d_X8_dice_8 (fun q => (bTF (c0) q).elim) (fun h8 => ?_)
    refine V_il2 d_X8_dice_11 ?_
    refine U_cs1 d_X8_dice_12 (c_X8_isSixteenths) rfl ?_
    refine V_eqB d_X8_dice_15 (fun q => (bTF (c1) q).elim) (fun h15 => ?_)
    refine V_il3 d_X8_dice_18 ?_
    refine V_ki d_X8_dice_19 ?_
    refine V_ki d_X8_dice_20 ?_
    refine U_cs3 d_X8_dice_21 (c_X8_within) rfl ?_
    refine V_neB d_X8_dice_24 (fun h24 => ?_) (fun q => (bTF (c2) q).elim)
    refine V_il3 d_X8_dice_33 ?_
    refine V_ki d_X8_dice_34 ?_
    refine V_ic_ne d_X8_dice_35 (fun h35 => ?_) (fun q => (nI_m1 (by omega) q).elim)
    refine V_al0 d_X8_dice_50 ?_
    refine V_getR d_X8_dice_51 rfl rfl (by decide) rfl ?_
    refine V_il1 d_X8_dice_54 ?_
    refine V_il2 d_X8_dice_55 ?_
    refine U_cv2 d_X8_dice_56 (t1) rfl rfl rfl ?_
    refine V_il3 d_X8_dice_59 ?_
    refine U_cv1 d_X8_dice_60 (hpt) rfl rfl rfl ?_
    exact V_lret d_X8_dice_63 rfl (by first | rfl | simp_all) rfl
set_option maxRecDepth 100000 in
theorem g9_dice {G : Gm} {b : Nat → Nat} {sz : Nat} {ft : Int32} {N : List (List Nat)} {w wy : Nat → Nat} {lk nd : Nat} {n p : Nat} {wI : Int32} {r : Int64} (hx : TXT b sz ft N) (hB : HB w wy lk nd) (hn : n < N.length) (hp : p ≤ 16) (hr : (wI = -1 ∧ r = lN (alN N n N.length)) ∨ ∃ j, j < 2 ∧ wI = nI j ∧ r = lN (if j = 0 then (chF p (alN N n N.length) (N.length - alN N n N.length)).1 else (chF p (alN N n N.length) (N.length - alN N n N.length)).2)) : EX G M_X9_dice [.ref (gB G + 22), .int (nI n), .int (nI p), .int wI] (some (.long (r))) b sz ft N w wy lk nd := by
  intro S h
  obtain ⟨⟨hsz, hbs⟩, hcn, hmt, hhc, hhm, hsh, hfd⟩ := h
  have hN := PR_wf hx.2.2
  have hN8 := hN.1
  obtain ⟨l1, l2⟩ := hB.2.2.1
  obtain ⟨n1, n2⟩ := hB.2.2.2
  have c0 : tolB (nI n) N.length = true := tolB_nI (by omega) hn
  have c1 : inR (nI p) (nI 0) (nI 16) = true := inR_T (by omega) (by decide)
  have c2 : inR wI (-1) (nI 1) = true := (by rcases hr with ⟨e, _⟩ | ⟨j, hj, e, _⟩ <;> rw [e] <;> first | decide | exact m1_inN j hj)
  obtain ⟨S1, m1, m2, m3⟩ := c_X9_isNight (G := G) (v := nI n) hmt hx
  refine ⟨S1, ?_, PQ_M m3⟩
  refine Rn_of hp_X9_dice [some (.ref (gB G + 22)), some (.int (nI n)), some (.int (nI p)), some (.int wI)] rfl (Nat.le_of_ble_eq_true rfl) (Nat.le_of_ble_eq_true rfl) ?_
  refine V_al0 d_X9_dice_0 ?_
  refine V_il1 d_X9_dice_1 ?_
  refine U_cv1 d_X9_dice_2 (m1) rfl rfl rfl ?_
  refine V_eqB d_X9_dice_5 (fun q => (bTF (c0) q).elim) (fun h5 => ?_)
  refine V_il2 d_X9_dice_8 ?_
  refine V_ki d_X9_dice_9 ?_
  refine V_ki d_X9_dice_10 ?_
  refine U_cs3 d_X9_dice_12 (c_X9_in) rfl ?_
  refine V_eqB d_X9_dice_15 (fun q => (bTF (c1) q).elim) (fun h15 => ?_)
  refine V_il3 d_X9_dice_18 ?_
  refine V_ki d_X9_dice_19 ?_
  refine V_ki d_X9_dice_20 ?_
  refine U_cs3 d_X9_dice_21 (c_X9_in) rfl ?_
  refine V_eqB d_X9_dice_24 (fun q => (bTF (c2) q).elim) (fun h24 => ?_)
  refine V_al0 d_X9_dice_27 ?_
  refine V_il1 d_X9_dice_28 ?_
  refine V_il2 d_X9_dice_29 ?_
  refine V_il3 d_X9_dice_30 ?_
  refine U_cv3 d_X9_dice_31 (c_X9_diceOf m2 hN hn hp hr) rfl rfl rfl ?_
  refine V_goto d_X9_dice_34 ?_
  exact V_lret d_X9_dice_42 rfl (by first | rfl | simp_all) rfl
set_option maxRecDepth 100000 in
theorem q_dice {G : Gm} {b : Nat → Nat} {sz : Nat} {ft : Int32} {N : List (List Nat)} {w wy : Nat → Nat} {lk nd : Nat} {a p u : Int32} (hx : TXT b sz ft N) (hB : HB w wy lk nd) : ∃ v : Int64, EX G M_X8_dice [.ref (gB G + 0), .int a, .int p, .int u] (some (.long v)) b sz ft N w wy lk nd ∧ EX G M_X9_dice [.ref (gB G + 22), .int a, .int p, .int u] (some (.long v)) b sz ft N w wy lk nd := by
  have hN := PR_wf hx.2.2
  have hN8 := hN.1
  obtain ⟨l1, l2⟩ := hB.2.2.1
  obtain ⟨n1, n2⟩ := hB.2.2.2
  cases c0 : tolB a N.length with
  | false =>
    refine ⟨(-9223372036854775808 : Int64) - (-2 : Int32).toInt64, ?_, ?_⟩
    · intro S h
      obtain ⟨⟨hsz, hbs⟩, hcn, hmt, hhc, hhm, hsh, hfd⟩ := h
      refine ⟨S, ?_, Ag.rf⟩
      refine Rn_of hp_X8_dice [some (.ref (gB G + 0)), some (.int a), some (.int p), some (.int u)] rfl (Nat.le_of_ble_eq_true rfl) (Nat.le_of_ble_eq_true rfl) ?_
      refine V_al0 d_X8_dice_0 ?_
      refine V_getR d_X8_dice_1 rfl rfl (by decide) rfl ?_
      refine V_il1 d_X8_dice_4 ?_
      refine U_cv1 d_X8_dice_5 (c_X4_isTold hcn.2.1 hN8) rfl rfl rfl ?_
      refine V_eqB d_X8_dice_8 (fun h8 => ?_) (fun q => (bTF q (c0)).elim)
      refine V_ki d_X8_dice_27 ?_
      refine U_cs1 d_X8_dice_29 (c_X8_refusal) rfl ?_
      exact V_lret d_X8_dice_32 rfl (by first | rfl | simp_all) rfl
    · intro S h
      obtain ⟨⟨hsz, hbs⟩, hcn, hmt, hhc, hhm, hsh, hfd⟩ := h
      obtain ⟨S1, m1, m2, m3⟩ := c_X9_isNight (G := G) (v := a) hmt hx
      refine ⟨S1, ?_, PQ_M m3⟩
      refine Rn_of hp_X9_dice [some (.ref (gB G + 22)), some (.int a), some (.int p), some (.int u)] rfl (Nat.le_of_ble_eq_true rfl) (Nat.le_of_ble_eq_true rfl) ?_
      refine V_al0 d_X9_dice_0 ?_
      refine V_il1 d_X9_dice_1 ?_
      refine U_cv1 d_X9_dice_2 (m1) rfl rfl rfl ?_
      refine V_eqB d_X9_dice_5 (fun h5 => ?_) (fun q => (bTF q (c0)).elim)
      refine V_ki d_X9_dice_37 ?_
      refine U_cs1 d_X9_dice_39 (c_X9_no) rfl ?_
      exact V_lret d_X9_dice_42 rfl (by first | rfl | simp_all) rfl
  | true =>
    cases c1 : inR p (nI 0) (nI 16) with
    | false =>
      refine ⟨(-9223372036854775808 : Int64) - (-2 : Int32).toInt64, ?_, ?_⟩
      · intro S h
        obtain ⟨⟨hsz, hbs⟩, hcn, hmt, hhc, hhm, hsh, hfd⟩ := h
        refine ⟨S, ?_, Ag.rf⟩
        refine Rn_of hp_X8_dice [some (.ref (gB G + 0)), some (.int a), some (.int p), some (.int u)] rfl (Nat.le_of_ble_eq_true rfl) (Nat.le_of_ble_eq_true rfl) ?_
        refine V_al0 d_X8_dice_0 ?_
        refine V_getR d_X8_dice_1 rfl rfl (by decide) rfl ?_
        refine V_il1 d_X8_dice_4 ?_
        refine U_cv1 d_X8_dice_5 (c_X4_isTold hcn.2.1 hN8) rfl rfl rfl ?_
        refine V_eqB d_X8_dice_8 (fun q => (bTF (c0) q).elim) (fun h8 => ?_)
        refine V_il2 d_X8_dice_11 ?_
        refine U_cs1 d_X8_dice_12 (c_X8_isSixteenths) rfl ?_
        refine V_eqB d_X8_dice_15 (fun h15 => ?_) (fun q => (bTF q (c1)).elim)
        refine V_ki d_X8_dice_27 ?_
        refine U_cs1 d_X8_dice_29 (c_X8_refusal) rfl ?_
        exact V_lret d_X8_dice_32 rfl (by first | rfl | simp_all) rfl
      · intro S h
        obtain ⟨⟨hsz, hbs⟩, hcn, hmt, hhc, hhm, hsh, hfd⟩ := h
        obtain ⟨S1, m1, m2, m3⟩ := c_X9_isNight (G := G) (v := a) hmt hx
        refine ⟨S1, ?_, PQ_M m3⟩
        refine Rn_of hp_X9_dice [some (.ref (gB G + 22)), some (.int a), some (.int p), some (.int u)] rfl (Nat.le_of_ble_eq_true rfl) (Nat.le_of_ble_eq_true rfl) ?_
        refine V_al0 d_X9_dice_0 ?_
        refine V_il1 d_X9_dice_1 ?_
        refine U_cv1 d_X9_dice_2 (m1) rfl rfl rfl ?_
        refine V_eqB d_X9_dice_5 (fun q => (bTF (c0) q).elim) (fun h5 => ?_)
        refine V_il2 d_X9_dice_8 ?_
        refine V_ki d_X9_dice_9 ?_
        refine V_ki d_X9_dice_10 ?_
        refine U_cs3 d_X9_dice_12 (c_X9_in) rfl ?_
        refine V_eqB d_X9_dice_15 (fun h15 => ?_) (fun q => (bTF q (c1)).elim)
        refine V_ki d_X9_dice_37 ?_
        refine U_cs1 d_X9_dice_39 (c_X9_no) rfl ?_
        exact V_lret d_X9_dice_42 rfl (by first | rfl | simp_all) rfl
    | true =>
      cases c2 : inR u (-1) (nI 1) with
      | false =>
        refine ⟨(-9223372036854775808 : Int64) - (-2 : Int32).toInt64, ?_, ?_⟩
        · intro S h
          obtain ⟨⟨hsz, hbs⟩, hcn, hmt, hhc, hhm, hsh, hfd⟩ := h
          refine ⟨S, ?_, Ag.rf⟩
          refine Rn_of hp_X8_dice [some (.ref (gB G + 0)), some (.int a), some (.int p), some (.int u)] rfl (Nat.le_of_ble_eq_true rfl) (Nat.le_of_ble_eq_true rfl) ?_
          refine V_al0 d_X8_dice_0 ?_
          refine V_getR d_X8_dice_1 rfl rfl (by decide) rfl ?_
          refine V_il1 d_X8_dice_4 ?_
          refine U_cv1 d_X8_dice_5 (c_X4_isTold hcn.2.1 hN8) rfl rfl rfl ?_
          refine V_eqB d_X8_dice_8 (fun q => (bTF (c0) q).elim) (fun h8 => ?_)
          refine V_il2 d_X8_dice_11 ?_
          refine U_cs1 d_X8_dice_12 (c_X8_isSixteenths) rfl ?_
          refine V_eqB d_X8_dice_15 (fun q => (bTF (c1) q).elim) (fun h15 => ?_)
          refine V_il3 d_X8_dice_18 ?_
          refine V_ki d_X8_dice_19 ?_
          refine V_ki d_X8_dice_20 ?_
          refine U_cs3 d_X8_dice_21 (c_X8_within) rfl ?_
          refine V_neB d_X8_dice_24 (fun q => (bTF q (c2)).elim) (fun h24 => ?_)
          refine V_ki d_X8_dice_27 ?_
          refine U_cs1 d_X8_dice_29 (c_X8_refusal) rfl ?_
          exact V_lret d_X8_dice_32 rfl (by first | rfl | simp_all) rfl
        · intro S h
          obtain ⟨⟨hsz, hbs⟩, hcn, hmt, hhc, hhm, hsh, hfd⟩ := h
          obtain ⟨S1, m1, m2, m3⟩ := c_X9_isNight (G := G) (v := a) hmt hx
          refine ⟨S1, ?_, PQ_M m3⟩
          refine Rn_of hp_X9_dice [some (.ref (gB G + 22)), some (.int a), some (.int p), some (.int u)] rfl (Nat.le_of_ble_eq_true rfl) (Nat.le_of_ble_eq_true rfl) ?_
          refine V_al0 d_X9_dice_0 ?_
          refine V_il1 d_X9_dice_1 ?_
          refine U_cv1 d_X9_dice_2 (m1) rfl rfl rfl ?_
          refine V_eqB d_X9_dice_5 (fun q => (bTF (c0) q).elim) (fun h5 => ?_)
          refine V_il2 d_X9_dice_8 ?_
          refine V_ki d_X9_dice_9 ?_
          refine V_ki d_X9_dice_10 ?_
          refine U_cs3 d_X9_dice_12 (c_X9_in) rfl ?_
          refine V_eqB d_X9_dice_15 (fun q => (bTF (c1) q).elim) (fun h15 => ?_)
          refine V_il3 d_X9_dice_18 ?_
          refine V_ki d_X9_dice_19 ?_
          refine V_ki d_X9_dice_20 ?_
          refine U_cs3 d_X9_dice_21 (c_X9_in) rfl ?_
          refine V_eqB d_X9_dice_24 (fun h24 => ?_) (fun q => (bTF q (c2)).elim)
          refine V_ki d_X9_dice_37 ?_
          refine U_cs1 d_X9_dice_39 (c_X9_no) rfl ?_
          exact V_lret d_X9_dice_42 rfl (by first | rfl | simp_all) rfl
      | true =>
        obtain ⟨n, hn, rfl⟩ := tolB_ex (by omega) c0
        obtain ⟨p, hp, rfl⟩ := inR_ex (by decide) c1
        rcases m1_ex c2 with e | ⟨j, hj, e⟩
        · exact ⟨_, g8_dice hx hB hn hp (Or.inl ⟨e, rfl⟩), g9_dice hx hB hn hp (Or.inl ⟨e, rfl⟩)⟩
        · exact ⟨_, g8_dice hx hB hn hp (Or.inr ⟨j, hj, e, rfl⟩), g9_dice hx hB hn hp (Or.inr ⟨j, hj, e, rfl⟩)⟩
set_option maxRecDepth 100000 in
theorem g8_seeds {G : Gm} {b : Nat → Nat} {sz : Nat} {ft : Int32} {N : List (List Nat)} {w wy : Nat → Nat} {lk nd : Nat} {j : Nat} (hx : TXT b sz ft N) (hB : HB w wy lk nd) (hj : j ≤ 1) : EX G M_X8_seeds [.ref (gB G + 0), .int (nI j)] (some (.int (if j = 0 then nI (sumN (fun s => if ftL N N.length 0 (nI s) = true then 1 else 0) 100) else oI (fstN (fun s => ftL N N.length 0 (nI s)) 100 0)))) b sz ft N w wy lk nd := by
  intro S h
  obtain ⟨⟨hsz, hbs⟩, hcn, hmt, hhc, hhm, hsh, hfd⟩ := h
  have hN := PR_wf hx.2.2
  have hN8 := hN.1
  obtain ⟨l1, l2⟩ := hB.2.2.1
  obtain ⟨n1, n2⟩ := hB.2.2.2
  have c0 : inR (nI j) (nI 0) (nI 1) = true := inR_T (by omega) (by decide)
  refine ⟨S, ?_, Ag.rf⟩
  refine Rn_of hp_X8_seeds [some (.ref (gB G + 0)), some (.int (nI j))] rfl (Nat.le_of_ble_eq_true rfl) (Nat.le_of_ble_eq_true rfl) ?_
  refine V_il1 d_X8_seeds_0 ?_
  refine V_ki d_X8_seeds_1 ?_
  refine V_ki d_X8_seeds_2 ?_
  refine U_cs3 d_X8_seeds_3 (c_X8_within) rfl ?_
  refine V_neB d_X8_seeds_6 (fun h6 => ?_) (fun q => (bTF (c0) q).elim)
  refine V_il1 d_X8_seeds_12 ?_
  refine U_if_neN d_X8_seeds_13 (by omega) (fun h13 => ?_) (fun h13 => ?_)
  · refine V_al0 d_X8_seeds_26 ?_
    refine V_getR d_X8_seeds_27 rfl rfl (by decide) rfl ?_
    refine U_cv0 d_X8_seeds_30 (c_X1_leastSeed hcn hN) rfl rfl rfl ?_
    exact V_iret d_X8_seeds_33 rfl (by first | rw [if_pos h13] | rw [if_neg h13]) rfl
  · refine V_al0 d_X8_seeds_16 ?_
    refine V_getR d_X8_seeds_17 rfl rfl (by decide) rfl ?_
    refine U_cv0 d_X8_seeds_20 (c_X1_fittingSeeds hcn hN) rfl rfl rfl ?_
    refine V_goto d_X8_seeds_23 ?_
    exact V_iret d_X8_seeds_33 rfl (by first | rw [if_pos h13] | rw [if_neg h13]) rfl
set_option maxRecDepth 100000 in
theorem g9_seeds {G : Gm} {b : Nat → Nat} {sz : Nat} {ft : Int32} {N : List (List Nat)} {w wy : Nat → Nat} {lk nd : Nat} {j : Nat} (hx : TXT b sz ft N) (hB : HB w wy lk nd) (hj : j ≤ 1) : EX G M_X9_seeds [.ref (gB G + 22), .int (nI j)] (some (.int (if j = 0 then nI (sumN (fun s => if ftL N N.length 0 (nI s) = true then 1 else 0) 100) else oI (fstN (fun s => ftL N N.length 0 (nI s)) 100 0)))) b sz ft N w wy lk nd := by
  intro S h
  obtain ⟨⟨hsz, hbs⟩, hcn, hmt, hhc, hhm, hsh, hfd⟩ := h
  have hN := PR_wf hx.2.2
  have hN8 := hN.1
  obtain ⟨l1, l2⟩ := hB.2.2.1
  obtain ⟨n1, n2⟩ := hB.2.2.2
  have c0 : inR (nI j) (nI 0) (nI 1) = true := inR_T (by omega) (by decide)
  obtain ⟨S1, m1, m2, m3⟩ := c_X9_seedsOf (G := G) hmt hx (show j < 2 by omega)
  refine ⟨S1, ?_, PQ_M m3⟩
  refine Rn_of hp_X9_seeds [some (.ref (gB G + 22)), some (.int (nI j))] rfl (Nat.le_of_ble_eq_true rfl) (Nat.le_of_ble_eq_true rfl) ?_
  refine V_il1 d_X9_seeds_0 ?_
  refine V_ki d_X9_seeds_1 ?_
  refine V_ki d_X9_seeds_2 ?_
  refine U_cs3 d_X9_seeds_3 (c_X9_in) rfl ?_
  refine V_eqB d_X9_seeds_6 (fun q => (bTF (c0) q).elim) (fun h6 => ?_)
  refine V_al0 d_X9_seeds_9 ?_
  refine V_il1 d_X9_seeds_10 ?_
  refine U_cv1 d_X9_seeds_11 (m1) rfl rfl rfl ?_
  refine V_goto d_X9_seeds_14 ?_
  exact V_iret d_X9_seeds_19 rfl (by first | rfl | simp_all) rfl
set_option maxRecDepth 100000 in
theorem q_seeds {G : Gm} {b : Nat → Nat} {sz : Nat} {ft : Int32} {N : List (List Nat)} {w wy : Nat → Nat} {lk nd : Nat} {j : Int32} (hx : TXT b sz ft N) (hB : HB w wy lk nd) : ∃ v : Int32, EX G M_X8_seeds [.ref (gB G + 0), .int j] (some (.int v)) b sz ft N w wy lk nd ∧ EX G M_X9_seeds [.ref (gB G + 22), .int j] (some (.int v)) b sz ft N w wy lk nd := by
  have hN := PR_wf hx.2.2
  have hN8 := hN.1
  obtain ⟨l1, l2⟩ := hB.2.2.1
  obtain ⟨n1, n2⟩ := hB.2.2.2
  cases c0 : inR j (nI 0) (nI 1) with
  | false =>
    refine ⟨-2, ?_, ?_⟩
    · intro S h
      obtain ⟨⟨hsz, hbs⟩, hcn, hmt, hhc, hhm, hsh, hfd⟩ := h
      refine ⟨S, ?_, Ag.rf⟩
      refine Rn_of hp_X8_seeds [some (.ref (gB G + 0)), some (.int j)] rfl (Nat.le_of_ble_eq_true rfl) (Nat.le_of_ble_eq_true rfl) ?_
      refine V_il1 d_X8_seeds_0 ?_
      refine V_ki d_X8_seeds_1 ?_
      refine V_ki d_X8_seeds_2 ?_
      refine U_cs3 d_X8_seeds_3 (c_X8_within) rfl ?_
      refine V_neB d_X8_seeds_6 (fun q => (bTF q (c0)).elim) (fun h6 => ?_)
      refine V_ki d_X8_seeds_9 ?_
      exact V_iret d_X8_seeds_11 rfl (by first | rfl | simp_all) rfl
    · intro S h
      obtain ⟨⟨hsz, hbs⟩, hcn, hmt, hhc, hhm, hsh, hfd⟩ := h

      refine ⟨S, ?_, Ag.rf⟩
      refine Rn_of hp_X9_seeds [some (.ref (gB G + 22)), some (.int j)] rfl (Nat.le_of_ble_eq_true rfl) (Nat.le_of_ble_eq_true rfl) ?_
      refine V_il1 d_X9_seeds_0 ?_
      refine V_ki d_X9_seeds_1 ?_
      refine V_ki d_X9_seeds_2 ?_
      refine U_cs3 d_X9_seeds_3 (c_X9_in) rfl ?_
      refine V_eqB d_X9_seeds_6 (fun h6 => ?_) (fun q => (bTF q (c0)).elim)
      refine V_ki d_X9_seeds_17 ?_
      exact V_iret d_X9_seeds_19 rfl (by first | rfl | simp_all) rfl
  | true =>
    obtain ⟨j, hj, rfl⟩ := inR_ex (by decide) c0
    exact ⟨_, g8_seeds hx hB hj, g9_seeds hx hB hj⟩
set_option maxRecDepth 100000 in
theorem g8_fault {G : Gm} {b : Nat → Nat} {sz : Nat} {ft : Int32} {N : List (List Nat)} {w wy : Nat → Nat} {lk nd : Nat} (hx : TXT b sz ft N) (hB : HB w wy lk nd) : EX G M_X8_fault [.ref (gB G + 0)] (some (.int ft)) b sz ft N w wy lk nd := by
  intro S h
  obtain ⟨⟨hsz, hbs⟩, hcn, hmt, hhc, hhm, hsh, hfd⟩ := h
  have hN := PR_wf hx.2.2
  have hN8 := hN.1
  obtain ⟨l1, l2⟩ := hB.2.2.1
  obtain ⟨n1, n2⟩ := hB.2.2.2
  refine ⟨S, ?_, Ag.rf⟩
  refine Rn_of hp_X8_fault [some (.ref (gB G + 0))] rfl (Nat.le_of_ble_eq_true rfl) (Nat.le_of_ble_eq_true rfl) ?_
  refine V_al0 d_X8_fault_0 ?_
  refine V_getR d_X8_fault_1 rfl rfl (by decide) rfl ?_
  refine V_getIe d_X8_fault_4 rfl rfl (by decide) (hcn.1) ?_
  exact V_iret d_X8_fault_7 rfl (by first | rfl | simp_all) rfl
set_option maxRecDepth 100000 in
theorem g9_fault {G : Gm} {b : Nat → Nat} {sz : Nat} {ft : Int32} {N : List (List Nat)} {w wy : Nat → Nat} {lk nd : Nat} (hx : TXT b sz ft N) (hB : HB w wy lk nd) : EX G M_X9_fault [.ref (gB G + 22)] (some (.int ft)) b sz ft N w wy lk nd := by
  intro S h
  obtain ⟨⟨hsz, hbs⟩, hcn, hmt, hhc, hhm, hsh, hfd⟩ := h
  have hN := PR_wf hx.2.2
  have hN8 := hN.1
  obtain ⟨l1, l2⟩ := hB.2.2.1
  obtain ⟨n1, n2⟩ := hB.2.2.2
  obtain ⟨S1, m1, m2, m3⟩ := c_X9_faultNow (G := G) hmt hx
  refine ⟨S1, ?_, PQ_M m3⟩
  refine Rn_of hp_X9_fault [some (.ref (gB G + 22))] rfl (Nat.le_of_ble_eq_true rfl) (Nat.le_of_ble_eq_true rfl) ?_
  refine V_al0 d_X9_fault_0 ?_
  refine U_cv0 d_X9_fault_1 (m1) rfl rfl rfl ?_
  exact V_iret d_X9_fault_4 rfl (by first | rfl | simp_all) rfl
