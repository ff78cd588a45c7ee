/-! calls that change: text and harbour -/
def RelW (S : AS) : Prop := ∃ (b : Nat → Nat) (sz : Nat) (ft : Int32) (N : List (List Nat)) (w wy : Nat → Nat) (lk nd : Nat), TXT b sz ft N ∧ HB w wy lk nd ∧ ST S b sz ft N w wy lk nd
def OPI (G : Gm) (M8 M9 : MT) (as : List Value) : Prop := ∀ S, RelW S → ∃ (v : Int32) (S1 S2 : AS), Rm G M8 (.ref (gB G + 0) :: as) S (some (.int v)) S1 ∧ Rm G M9 (.ref (gB G + 22) :: as) S1 (some (.int v)) S2 ∧ RelW S2
def OPL (G : Gm) (M8 M9 : MT) (as : List Value) : Prop := ∀ S, RelW S → ∃ (v : Int64) (S1 S2 : AS), Rm G M8 (.ref (gB G + 0) :: as) S (some (.long v)) S1 ∧ Rm G M9 (.ref (gB G + 22) :: as) S1 (some (.long v)) S2 ∧ RelW S2
theorem OPI_of {G : Gm} {M8 M9 : MT} {as : List Value} (h : ∀ {b : Nat → Nat} {sz : Nat} {ft : Int32} {N : List (List Nat)} {w wy : Nat → Nat} {lk nd : Nat}, TXT b sz ft N → HB w wy lk nd → ∃ v : Int32, EX G M8 (.ref (gB G + 0) :: as) (some (.int v)) b sz ft N w wy lk nd ∧ EX G M9 (.ref (gB G + 22) :: as) (some (.int v)) b sz ft N w wy lk nd) : OPI G M8 M9 as := by
  intro S hS
  obtain ⟨b, sz, ft, N, w, wy, lk, nd, hx, hB, hs⟩ := hS
  obtain ⟨v, h1, h2⟩ := h hx hB
  obtain ⟨S1, r1, a1⟩ := h1 S hs
  obtain ⟨S2, r2, a2⟩ := h2 S1 (hs.ag a1)
  exact ⟨v, S1, S2, r1, r2, b, sz, ft, N, w, wy, lk, nd, hx, hB, (hs.ag a1).ag a2⟩
theorem OPL_of {G : Gm} {M8 M9 : MT} {as : List Value} (h : ∀ {b : Nat → Nat} {sz : Nat} {ft : Int32} {N : List (List Nat)} {w wy : Nat → Nat} {lk nd : Nat}, TXT b sz ft N → HB w wy lk nd → ∃ v : Int64, EX G M8 (.ref (gB G + 0) :: as) (some (.long v)) b sz ft N w wy lk nd ∧ EX G M9 (.ref (gB G + 22) :: as) (some (.long v)) b sz ft N w wy lk nd) : OPL G M8 M9 as := by
  intro S hS
  obtain ⟨b, sz, ft, N, w, wy, lk, nd, hx, hB, hs⟩ := hS
  obtain ⟨v, h1, h2⟩ := h hx hB
  obtain ⟨S1, r1, a1⟩ := h1 S hs
  obtain ⟨S2, r2, a2⟩ := h2 S1 (hs.ag a1)
  exact ⟨v, S1, S2, r1, r2, b, sz, ft, N, w, wy, lk, nd, hx, hB, (hs.ag a1).ag a2⟩
def PT (a b : Nat) : Bool := a == 4 || a == 5 || a == 6 || a == 7 || a == 23 || (a == 22 && b == 1)
theorem PT_N {S S1 : AS} (h : Ag PN S S1) : Ag PT S S1 := h.mono (fun a b q => by
  unfold PT at q
  simp only [Bool.or_eq_false_iff] at q
  unfold PN
  rw [q.1.1.1.1.1, q.1.1.1.2, q.1.1.2]; rfl)
abbrev P23 : Nat → Nat → Bool := fun a b => a == 23 || (a == 22 && b == 1)
theorem ST_text {S S2 SE : AS} {b b' : Nat → Nat} {sz sz' : Nat} {ft ft' : Int32} {N N' : List (List Nat)} {w wy : Nat → Nat} {lk nd : Nat} (h : ST S b sz ft N w wy lk nd) (hT : Ag PT S S2) (h23 : Ag P23 SE S2) (hcn : CNv SE ft' N') (hsz : SE.1 4 3 = nI sz') (hb : ∀ i, i < sz' → SE.1 5 i = nI (b' i)) (hmt : MTv S2 b' sz') : ST S2 b' sz' ft' N' w wy lk nd := by
  obtain ⟨-, -, -, hhc, hhm, hsh, hfd⟩ := h
  exact ⟨⟨(h23.2 4 3 rfl).trans hsz, fun i hi => (h23.2 5 i rfl).trans (hb i hi)⟩, hcn.ag h23 (fun _ => rfl) (fun _ => rfl) (fun _ => rfl), hmt, hhc.ag hT (fun _ => rfl) (fun _ => rfl) (fun _ => rfl), hhm.ag hT (fun _ => rfl) (fun _ => rfl) rfl rfl, hsh.ag hT (fun _ => rfl) (fun _ => rfl) (fun _ => rfl) (fun _ => rfl) (fun _ => rfl) (fun _ => rfl) (fun _ => rfl), by rw [hT.2 17 4 rfl, hT.2 22 17 rfl]; exact hfd⟩
set_option maxRecDepth 100000 in
theorem o_type {G : Gm} {v : Int32} : OPI G M_X8_type M_X9_type [.int v] := by
  intro S hS
  obtain ⟨b, sz, ft, N, w, wy, lk, nd, hx, hB, h⟩ := hS
  obtain ⟨⟨hsz, hbs⟩, hcn, hmt, hhc, hhm, hsh, hfd⟩ := id h
  have hN := PR_wf hx.2.2
  have hN8 := hN.1
  cases c0 : inR v (nI 0) (nI 255) with
  | false =>
    refine ⟨-2, S, S, ?_, ?_, ⟨b, sz, ft, N, w, wy, lk, nd, hx, hB, h⟩⟩
    · refine Rn_of hp_X8_type [some (.ref (gB G + 0)), some (.int v)] rfl (Nat.le_of_ble_eq_true rfl) (Nat.le_of_ble_eq_true rfl) ?_
      refine V_il1 d_X8_type_0 ?_
      refine V_ki d_X8_type_1 ?_
      refine V_ki d_X8_type_2 ?_
      refine U_cs3 d_X8_type_5 (c_X8_within) rfl ?_
      refine V_neB d_X8_type_8 (fun q => (bTF q (c0)).elim) (fun h8 => ?_)
      refine V_ki d_X8_type_11 ?_
      exact V_iret d_X8_type_13 rfl (by first | rfl | simp_all) rfl
    · refine Rn_of hp_X9_type [some (.ref (gB G + 22)), some (.int v)] rfl (Nat.le_of_ble_eq_true rfl) (Nat.le_of_ble_eq_true rfl) ?_
      refine V_il1 d_X9_type_0 ?_
      refine V_ki d_X9_type_1 ?_
      refine V_ki d_X9_type_2 ?_
      refine U_cs3 d_X9_type_5 (c_X9_in) rfl ?_
      refine V_neB d_X9_type_8 (fun q => (bTF q (c0)).elim) (fun h8 => ?_)
      refine V_ki d_X9_type_11 ?_
      exact V_iret d_X9_type_13 rfl (by first | rfl | simp_all) rfl
  | true =>
    obtain ⟨k, hk, rfl⟩ := inR_ex (by decide) c0
    by_cases h60 : sz = 60
    · have hsz' := hsz
      rw [h60] at hsz'
      refine ⟨-4, S, S, ?_, ?_, ⟨b, sz, ft, N, w, wy, lk, nd, hx, hB, h⟩⟩
      · refine Rn_of hp_X8_type [some (.ref (gB G + 0)), some (.int (nI k))] rfl (Nat.le_of_ble_eq_true rfl) (Nat.le_of_ble_eq_true rfl) ?_
        refine V_il1 d_X8_type_0 ?_
        refine V_ki d_X8_type_1 ?_
        refine V_ki d_X8_type_2 ?_
        refine U_cs3 d_X8_type_5 (c_X8_within) rfl ?_
        refine V_neB d_X8_type_8 (fun h8 => ?_) (fun q => (bTF (c0) q).elim)
        refine V_al0 d_X8_type_14 ?_
        refine V_getR d_X8_type_15 rfl rfl (by decide) rfl ?_
        refine V_il1 d_X8_type_18 ?_
        refine U_cv1 d_X8_type_19 (c_X4_add_no hsz') rfl rfl rfl ?_
        refine V_eqB d_X8_type_22 (fun h22 => ?_) (fun q => (bTF q (rfl)).elim)
        refine V_ki d_X8_type_35 ?_
        exact V_iret d_X8_type_37 rfl (by first | rfl | simp_all) rfl
      · refine Rn_of hp_X9_type [some (.ref (gB G + 22)), some (.int (nI k))] rfl (Nat.le_of_ble_eq_true rfl) (Nat.le_of_ble_eq_true rfl) ?_
        refine V_il1 d_X9_type_0 ?_
        refine V_ki d_X9_type_1 ?_
        refine V_ki d_X9_type_2 ?_
        refine U_cs3 d_X9_type_5 (c_X9_in) rfl ?_
        refine V_neB d_X9_type_8 (fun h8 => ?_) (fun q => (bTF (c0) q).elim)
        refine V_al0 d_X9_type_14 ?_
        refine V_getIe d_X9_type_15 rfl rfl (by decide) (hmt.1) ?_
        refine V_ki d_X9_type_18 ?_
        refine U_ic_neN d_X9_type_20 (by omega) (by omega) (fun q => absurd h60 q) (fun h20 => ?_)
        refine V_ki d_X9_type_23 ?_
        exact V_iret d_X9_type_25 rfl (by first | rfl | simp_all) rfl
    · have hs60 := hx.1
      have hb' : ∀ i, i < sz + 1 → (sI (sI S 5 sz (nI k)) 4 3 (nI (sz + 1))).1 5 i = nI (if i = sz then k else b i) ∧ (if i = sz then k else b i) < 256 := by
        intro i hi
        by_cases e : i = sz
        · subst e
          rw [if_pos rfl]
          refine ⟨?_, by omega⟩
          show (if 5 = 5 ∧ i = i then nI k else S.1 5 i) = nI k
          rw [if_pos ⟨rfl, rfl⟩]
        · rw [if_neg e]
          refine ⟨?_, hx.2.1 i (by omega)⟩
          show (if 5 = 5 ∧ i = sz then nI k else S.1 5 i) = nI (b i)
          rw [if_neg (fun z => e z.2)]
          exact hbs i (by omega)
      obtain ⟨SE, ft', N', r1, pr, cn, ag⟩ := c_X4_reread (G := G) (S := sI (sI S 5 sz (nI k)) 4 3 (nI (sz + 1))) (b := fun i => if i = sz then k else b i) (sz := sz + 1) rfl (by omega) hb'
      have ra := c_X4_add hsz (by omega) r1
      have e3 : SE.1 4 3 = nI (sz + 1) := ag.2 4 3 rfl
      have mt1 : SE.1 22 1 = nI sz := (ag.2 22 1 rfl).trans hmt.1
      have hT : Ag PT S (sI (sI SE 23 sz (nI k)) 22 1 (nI (sz + 1))) := ((((Ag.rf.sI rfl).sI rfl).tr (PT_N ag)).sI rfl).sI rfl
      have hst : ST (sI (sI SE 23 sz (nI k)) 22 1 (nI (sz + 1))) (fun i => if i = sz then k else b i) (sz + 1) ft' N' w wy lk nd := by
        refine ST_text h hT ((Ag.rf.sI rfl).sI rfl) cn e3 (fun i hi => (ag.2 5 i rfl).trans (hb' i hi).1) ⟨rfl, fun i hi => ?_⟩
        show (if 23 = 23 ∧ i = sz then nI k else SE.1 23 i) = nI (if i = sz then k else b i)
        by_cases e : i = sz
        · rw [if_pos ⟨rfl, e⟩, if_pos e]
        · rw [if_neg (fun z => e z.2), if_neg e]
          exact (ag.2 23 i rfl).trans (hmt.2 i (by omega))
      refine ⟨nI (sz + 1), SE, sI (sI SE 23 sz (nI k)) 22 1 (nI (sz + 1)), ?_, ?_, ⟨_, sz + 1, ft', N', w, wy, lk, nd, ⟨by omega, fun i hi => (hb' i hi).2, pr⟩, hB, hst⟩⟩
      · refine Rn_of hp_X8_type [some (.ref (gB G + 0)), some (.int (nI k))] rfl (Nat.le_of_ble_eq_true rfl) (Nat.le_of_ble_eq_true rfl) ?_
        refine V_il1 d_X8_type_0 ?_
        refine V_ki d_X8_type_1 ?_
        refine V_ki d_X8_type_2 ?_
        refine U_cs3 d_X8_type_5 (c_X8_within) rfl ?_
        refine V_neB d_X8_type_8 (fun h8 => ?_) (fun q => (bTF (c0) q).elim)
        refine V_al0 d_X8_type_14 ?_
        refine V_getR d_X8_type_15 rfl rfl (by decide) rfl ?_
        refine V_il1 d_X8_type_18 ?_
        refine U_cv1 d_X8_type_19 (ra) rfl rfl rfl ?_
        refine V_eqB d_X8_type_22 (fun q => (bTF (rfl) q).elim) (fun h22 => ?_)
        refine V_al0 d_X8_type_25 ?_
        refine V_getR d_X8_type_26 rfl rfl (by decide) rfl ?_
        refine V_getIe d_X8_type_29 rfl rfl (by decide) (e3) ?_
        refine V_goto d_X8_type_32 ?_
        exact V_iret d_X8_type_37 rfl (by first | rfl | simp_all) rfl
      · refine Rn_of hp_X9_type [some (.ref (gB G + 22)), some (.int (nI k))] rfl (Nat.le_of_ble_eq_true rfl) (Nat.le_of_ble_eq_true rfl) ?_
        refine V_il1 d_X9_type_0 ?_
        refine V_ki d_X9_type_1 ?_
        refine V_ki d_X9_type_2 ?_
        refine U_cs3 d_X9_type_5 (c_X9_in) rfl ?_
        refine V_neB d_X9_type_8 (fun h8 => ?_) (fun q => (bTF (c0) q).elim)
        refine V_al0 d_X9_type_14 ?_
        refine V_getIe d_X9_type_15 rfl rfl (by decide) (mt1) ?_
        refine V_ki d_X9_type_18 ?_
        refine U_ic_neN d_X9_type_20 (by omega) (by omega) (fun h20 => ?_) (fun q => absurd q h60)
        refine V_al0 d_X9_type_26 ?_
        refine V_getR d_X9_type_27 rfl rfl (by decide) rfl ?_
        refine V_al0 d_X9_type_30 ?_
        refine V_getIe d_X9_type_31 rfl rfl (by decide) (mt1) ?_
        refine V_il1 d_X9_type_34 ?_
        refine V_iast d_X9_type_35 rfl (by decide) rfl (show sz < 60 by omega) ?_
        refine V_al0 d_X9_type_36 ?_
        refine V_dup d_X9_type_37 rfl ?_
        refine V_getIe d_X9_type_38 rfl rfl (by decide) (mt1) ?_
        refine V_ki d_X9_type_41 ?_
        first | with_reducible refine V_iaddN d_X9_type_42 ?_ | refine V_iadd d_X9_type_42 ?_
        refine V_putI d_X9_type_43 rfl rfl (by decide) rfl ?_
        refine V_al0 d_X9_type_46 ?_
        refine V_getIe d_X9_type_47 rfl rfl (by decide) (rfl) ?_
        exact V_iret d_X9_type_50 rfl (by first | rfl | simp_all) rfl
set_option maxRecDepth 100000 in
theorem o_wipe {G : Gm} : OPI G M_X8_wipe M_X9_wipe [] := by
  intro S hS
  obtain ⟨b, sz, ft, N, w, wy, lk, nd, hx, hB, h⟩ := hS
  obtain ⟨⟨hsz, hbs⟩, hcn, hmt, hhc, hhm, hsh, hfd⟩ := id h
  have hN := PR_wf hx.2.2
  have hN8 := hN.1
  obtain ⟨SE, ft', N', r1, pr, cn, ag⟩ := c_X4_reread (G := G) (S := sI S 4 3 (nI 0)) (b := b) (sz := 0) rfl (by omega) (fun i hi => absurd hi (Nat.not_lt_zero _))
  have ra := c_X4_empty hsz r1
  have mt1 : SE.1 22 1 = nI sz := (ag.2 22 1 rfl).trans hmt.1
  have hT : Ag PT S (sI SE 22 1 (nI 0)) := ((Ag.rf.sI rfl).tr (PT_N ag)).sI rfl
  have hst : ST (sI SE 22 1 (nI 0)) b 0 ft' N' w wy lk nd := ST_text h hT (Ag.rf.sI rfl) cn (ag.2 4 3 rfl) (fun i hi => absurd hi (Nat.not_lt_zero _)) ⟨rfl, fun i hi => absurd hi (Nat.not_lt_zero _)⟩
  refine ⟨nI sz, SE, sI SE 22 1 (nI 0), ?_, ?_, ⟨b, 0, ft', N', w, wy, lk, nd, ⟨by omega, fun i hi => absurd hi (Nat.not_lt_zero _), pr⟩, hB, hst⟩⟩
  · refine Rn_of hp_X8_wipe [some (.ref (gB G + 0))] rfl (Nat.le_of_ble_eq_true rfl) (Nat.le_of_ble_eq_true rfl) ?_
    refine V_al0 d_X8_wipe_0 ?_
    refine V_getR d_X8_wipe_1 rfl rfl (by decide) rfl ?_
    refine U_cv0 d_X8_wipe_4 (ra) rfl rfl rfl ?_
    exact V_iret d_X8_wipe_7 rfl (by first | rfl | simp_all) rfl
  · refine Rn_of hp_X9_wipe [some (.ref (gB G + 22)), none] rfl (Nat.le_of_ble_eq_true rfl) (Nat.le_of_ble_eq_true rfl) ?_
    refine V_al0 d_X9_wipe_0 ?_
    refine V_getIe d_X9_wipe_1 rfl rfl (by decide) (mt1) ?_
    refine V_is1 d_X9_wipe_4 rfl ?_
    refine V_al0 d_X9_wipe_5 ?_
    refine V_ki d_X9_wipe_6 ?_
    refine V_putI d_X9_wipe_7 rfl rfl (by decide) rfl ?_
    refine V_il1 d_X9_wipe_10 ?_
    exact V_iret d_X9_wipe_11 rfl (by first | rfl | simp_all) rfl
def PH (a b : Nat) : Bool := a == 2 || a == 3 || a == 26 || a == 27 || (a == 1 && (b == 2 || b == 3)) || (a == 22 && (b == 7 || b == 8))
theorem ST_harb {S S2 : AS} {b : Nat → Nat} {sz : Nat} {ft : Int32} {N : List (List Nat)} {w wy w' wy' : Nat → Nat} {lk nd lk' nd' : Nat} (h : ST S b sz ft N w wy lk nd) (hA : Ag PH S S2) (hc : HVc S2 w' wy' lk' nd') (hm : HVm S2 w' wy' lk' nd') : ST S2 b sz ft N w' wy' lk' nd' := by
  obtain ⟨⟨hsz, hbs⟩, hcn, hmt, -, -, hsh, hfd⟩ := h
  exact ⟨⟨(hA.2 4 3 rfl).trans hsz, fun i hi => (hA.2 5 i rfl).trans (hbs i hi)⟩, hcn.ag hA (fun _ => rfl) (fun _ => rfl) (fun _ => rfl), hmt.ag hA rfl (fun _ => rfl), hc, hm, hsh.ag hA (fun _ => rfl) (fun _ => rfl) (fun _ => rfl) (fun _ => rfl) (fun _ => rfl) (fun _ => rfl) (fun _ => rfl), by rw [hA.2 17 4 rfl, hA.2 22 17 rfl]; exact hfd⟩
set_option maxRecDepth 100000 in
theorem o_worth {G : Gm} {a v : Int32} : OPI G M_X8_worth M_X9_worth [.int a, .int v] := by
  intro S hS
  obtain ⟨b, sz, ft, N, w, wy, lk, nd, hx, hB, h⟩ := hS
  obtain ⟨⟨hsz, hbs⟩, hcn, hmt, hhc, hhm, hsh, hfd⟩ := id h
  have hN := PR_wf hx.2.2
  have hN8 := hN.1
  cases c0 : inR a (nI 0) (nI 5) with
  | false =>
    refine ⟨-2, S, S, ?_, ?_, ⟨b, sz, ft, N, w, wy, lk, nd, hx, hB, h⟩⟩
    · refine Rn_of hp_X8_worth [some (.ref (gB G + 0)), some (.int a), some (.int v)] rfl (Nat.le_of_ble_eq_true rfl) (Nat.le_of_ble_eq_true rfl) ?_
      refine V_il1 d_X8_worth_0 ?_
      refine U_cs1 d_X8_worth_1 (c_X8_isShed) rfl ?_
      refine V_eqB d_X8_worth_4 (fun h4 => ?_) (fun q => (bTF q (c0)).elim)
      refine V_ki d_X8_worth_14 ?_
      exact V_iret d_X8_worth_16 rfl (by first | rfl | simp_all) rfl
    · refine Rn_of hp_X9_worth [some (.ref (gB G + 22)), some (.int a), some (.int v), none] rfl (Nat.le_of_ble_eq_true rfl) (Nat.le_of_ble_eq_true rfl) ?_
      refine V_il1 d_X9_worth_0 ?_
      refine U_cs1 d_X9_worth_1 (c_X9_isShed) rfl ?_
      refine V_eqB d_X9_worth_4 (fun h4 => ?_) (fun q => (bTF q (c0)).elim)
      refine V_ki d_X9_worth_17 ?_
      exact V_iret d_X9_worth_19 rfl (by first | rfl | simp_all) rfl
  | true =>
    cases c1 : inR v (nI 0) (nI 99) with
    | false =>
      refine ⟨-2, S, S, ?_, ?_, ⟨b, sz, ft, N, w, wy, lk, nd, hx, hB, h⟩⟩
      · refine Rn_of hp_X8_worth [some (.ref (gB G + 0)), some (.int a), some (.int v)] rfl (Nat.le_of_ble_eq_true rfl) (Nat.le_of_ble_eq_true rfl) ?_
        refine V_il1 d_X8_worth_0 ?_
        refine U_cs1 d_X8_worth_1 (c_X8_isShed) rfl ?_
        refine V_eqB d_X8_worth_4 (fun q => (bTF (c0) q).elim) (fun h4 => ?_)
        refine V_il2 d_X8_worth_7 ?_
        refine U_cs1 d_X8_worth_8 (c_X8_isWorth) rfl ?_
        refine V_neB d_X8_worth_11 (fun q => (bTF q (c1)).elim) (fun h11 => ?_)
        refine V_ki d_X8_worth_14 ?_
        exact V_iret d_X8_worth_16 rfl (by first | rfl | simp_all) rfl
      · refine Rn_of hp_X9_worth [some (.ref (gB G + 22)), some (.int a), some (.int v), none] rfl (Nat.le_of_ble_eq_true rfl) (Nat.le_of_ble_eq_true rfl) ?_
        refine V_il1 d_X9_worth_0 ?_
        refine U_cs1 d_X9_worth_1 (c_X9_isShed) rfl ?_
        refine V_eqB d_X9_worth_4 (fun q => (bTF (c0) q).elim) (fun h4 => ?_)
        refine V_il2 d_X9_worth_7 ?_
        refine V_ki d_X9_worth_8 ?_
        refine V_ki d_X9_worth_9 ?_
        refine U_cs3 d_X9_worth_11 (c_X9_in) rfl ?_
        refine V_neB d_X9_worth_14 (fun q => (bTF q (c1)).elim) (fun h14 => ?_)
        refine V_ki d_X9_worth_17 ?_
        exact V_iret d_X9_worth_19 rfl (by first | rfl | simp_all) rfl
    | true =>
      obtain ⟨x, hx5, rfl⟩ := inR_ex (by decide) c0
      obtain ⟨k, hk, rfl⟩ := inR_ex (by decide) c1
      have hw := c_X3_changeWorth (G := G) (S := S) (i := x) (v := nI k) (by omega)
      rw [hhc.1 x (by omega)] at hw
      have hc' : HVc (sI (sI S 2 x (nI k)) 26 x (nI k)) (fun i => if i = x then k else w i) wy lk nd := by
        refine ⟨fun i hi => ?_, hhc.2.1, hhc.2.2.1, hhc.2.2.2⟩
        show (if 2 = 2 ∧ i = x then nI k else S.1 2 i) = nI (if i = x then k else w i)
        by_cases e : i = x
        · rw [if_pos ⟨rfl, e⟩, if_pos e]
        · rw [if_neg (fun z => e z.2), if_neg e]; exact hhc.1 i hi
      have hm' : HVm (sI (sI S 2 x (nI k)) 26 x (nI k)) (fun i => if i = x then k else w i) wy lk nd := by
        refine ⟨fun i hi => ?_, hhm.2.1, hhm.2.2.1, hhm.2.2.2⟩
        show (if 26 = 26 ∧ i = x then nI k else S.1 26 i) = nI (if i = x then k else w i)
        by_cases e : i = x
        · rw [if_pos ⟨rfl, e⟩, if_pos e]
        · rw [if_neg (fun z => e z.2), if_neg e]; exact hhm.1 i hi
      have hB' : HB (fun i => if i = x then k else w i) wy lk nd := by
        refine ⟨fun i => ?_, hB.2⟩
        show (if i = x then k else w i) ≤ 99
        split
        · omega
        · exact hB.1 i
      have hst := ST_harb h ((Ag.rf.sI rfl).sI rfl) hc' hm'
      have hl : (sI S 2 x (nI k)).1 26 x = nI (w x) := hhm.1 x (by omega)
      refine ⟨nI (w x), sI S 2 x (nI k), sI (sI S 2 x (nI k)) 26 x (nI k), ?_, ?_, ⟨b, sz, ft, N, _, wy, lk, nd, hx, hB', hst⟩⟩
      · refine Rn_of hp_X8_worth [some (.ref (gB G + 0)), some (.int (nI x)), some (.int (nI k))] rfl (Nat.le_of_ble_eq_true rfl) (Nat.le_of_ble_eq_true rfl) ?_
        refine V_il1 d_X8_worth_0 ?_
        refine U_cs1 d_X8_worth_1 (c_X8_isShed) rfl ?_
        refine V_eqB d_X8_worth_4 (fun q => (bTF (c0) q).elim) (fun h4 => ?_)
        refine V_il2 d_X8_worth_7 ?_
        refine U_cs1 d_X8_worth_8 (c_X8_isWorth) rfl ?_
        refine V_neB d_X8_worth_11 (fun h11 => ?_) (fun q => (bTF (c1) q).elim)
        refine V_al0 d_X8_worth_17 ?_
        refine V_getR d_X8_worth_18 rfl rfl (by decide) rfl ?_
        refine V_il1 d_X8_worth_21 ?_
        refine V_il2 d_X8_worth_22 ?_
        refine U_cv2 d_X8_worth_23 (hw) rfl rfl rfl ?_
        exact V_iret d_X8_worth_26 rfl (by first | rfl | simp_all) rfl
      · refine Rn_of hp_X9_worth [some (.ref (gB G + 22)), some (.int (nI x)), some (.int (nI k)), none] rfl (Nat.le_of_ble_eq_true rfl) (Nat.le_of_ble_eq_true rfl) ?_
        refine V_il1 d_X9_worth_0 ?_
        refine U_cs1 d_X9_worth_1 (c_X9_isShed) rfl ?_
        refine V_eqB d_X9_worth_4 (fun q => (bTF (c0) q).elim) (fun h4 => ?_)
        refine V_il2 d_X9_worth_7 ?_
        refine V_ki d_X9_worth_8 ?_
        refine V_ki d_X9_worth_9 ?_
        refine U_cs3 d_X9_worth_11 (c_X9_in) rfl ?_
        refine V_neB d_X9_worth_14 (fun h14 => ?_) (fun q => (bTF (c1) q).elim)
        refine V_al0 d_X9_worth_20 ?_
        refine V_getR d_X9_worth_21 rfl rfl (by decide) rfl ?_
        refine V_il1 d_X9_worth_24 ?_
        refine V_ialdE d_X9_worth_25 rfl (by decide) rfl (show x < 6 by omega) hl ?_
        refine V_is3 d_X9_worth_26 rfl ?_
        refine V_al0 d_X9_worth_27 ?_
        refine V_getR d_X9_worth_28 rfl rfl (by decide) rfl ?_
        refine V_il1 d_X9_worth_31 ?_
        refine V_il2 d_X9_worth_32 ?_
        refine V_iast d_X9_worth_33 rfl (by decide) rfl (show x < 6 by omega) ?_
        refine V_il3 d_X9_worth_34 ?_
        exact V_iret d_X9_worth_35 rfl (by first | rfl | simp_all) rfl
set_option maxRecDepth 100000 in
theorem o_way {G : Gm} {a c v : Int32} : OPI G M_X8_way M_X9_way [.int a, .int c, .int v] := by
  intro S hS
  obtain ⟨b, sz, ft, N, w, wy, lk, nd, hx, hB, h⟩ := hS
  obtain ⟨⟨hsz, hbs⟩, hcn, hmt, hhc, hhm, hsh, hfd⟩ := id h
  have hN := PR_wf hx.2.2
  have hN8 := hN.1
  cases c0 : inR a (nI 0) (nI 5) with
  | false =>
    refine ⟨-2, S, S, ?_, ?_, ⟨b, sz, ft, N, w, wy, lk, nd, hx, hB, h⟩⟩
    · refine Rn_of hp_X8_way [some (.ref (gB G + 0)), some (.int a), some (.int c), some (.int v)] rfl (Nat.le_of_ble_eq_true rfl) (Nat.le_of_ble_eq_true rfl) ?_
      refine V_il1 d_X8_way_0 ?_
      refine U_cs1 d_X8_way_1 (c_X8_isShed) rfl ?_
      refine V_eqB d_X8_way_4 (fun h4 => ?_) (fun q => (bTF q (c0)).elim)
      refine V_ki d_X8_way_29 ?_
      exact V_iret d_X8_way_31 rfl (by first | rfl | simp_all) rfl
    · refine Rn_of hp_X9_way [some (.ref (gB G + 22)), some (.int a), some (.int c), some (.int v), none] rfl (Nat.le_of_ble_eq_true rfl) (Nat.le_of_ble_eq_true rfl) ?_
      refine V_il1 d_X9_way_0 ?_
      refine U_cs1 d_X9_way_1 (c_X9_isShed) rfl ?_
      refine V_eqB d_X9_way_4 (fun h4 => ?_) (fun q => (bTF q (c0)).elim)
      refine V_ki d_X9_way_29 ?_
      exact V_iret d_X9_way_31 rfl (by first | rfl | simp_all) rfl
  | true =>
    cases c1 : inR c (nI 0) (nI 5) with
    | false =>
      refine ⟨-2, S, S, ?_, ?_, ⟨b, sz, ft, N, w, wy, lk, nd, hx, hB, h⟩⟩
      · refine Rn_of hp_X8_way [some (.ref (gB G + 0)), some (.int a), some (.int c), some (.int v)] rfl (Nat.le_of_ble_eq_true rfl) (Nat.le_of_ble_eq_true rfl) ?_
        refine V_il1 d_X8_way_0 ?_
        refine U_cs1 d_X8_way_1 (c_X8_isShed) rfl ?_
        refine V_eqB d_X8_way_4 (fun q => (bTF (c0) q).elim) (fun h4 => ?_)
        refine V_il2 d_X8_way_7 ?_
        refine U_cs1 d_X8_way_8 (c_X8_isShed) rfl ?_
        refine V_eqB d_X8_way_11 (fun h11 => ?_) (fun q => (bTF q (c1)).elim)
        refine V_ki d_X8_way_29 ?_
        exact V_iret d_X8_way_31 rfl (by first | rfl | simp_all) rfl
      · refine Rn_of hp_X9_way [some (.ref (gB G + 22)), some (.int a), some (.int c), some (.int v), none] rfl (Nat.le_of_ble_eq_true rfl) (Nat.le_of_ble_eq_true rfl) ?_
        refine V_il1 d_X9_way_0 ?_
        refine U_cs1 d_X9_way_1 (c_X9_isShed) rfl ?_
        refine V_eqB d_X9_way_4 (fun q => (bTF (c0) q).elim) (fun h4 => ?_)
        refine V_il2 d_X9_way_7 ?_
        refine U_cs1 d_X9_way_8 (c_X9_isShed) rfl ?_
        refine V_eqB d_X9_way_11 (fun h11 => ?_) (fun q => (bTF q (c1)).elim)
        refine V_ki d_X9_way_29 ?_
        exact V_iret d_X9_way_31 rfl (by first | rfl | simp_all) rfl
    | true =>
      by_cases c2 : a = c
      · skip
        refine ⟨-2, S, S, ?_, ?_, ⟨b, sz, ft, N, w, wy, lk, nd, hx, hB, h⟩⟩
        · refine Rn_of hp_X8_way [some (.ref (gB G + 0)), some (.int a), some (.int c), some (.int v)] rfl (Nat.le_of_ble_eq_true rfl) (Nat.le_of_ble_eq_true rfl) ?_
          refine V_il1 d_X8_way_0 ?_
          refine U_cs1 d_X8_way_1 (c_X8_isShed) rfl ?_
          refine V_eqB d_X8_way_4 (fun q => (bTF (c0) q).elim) (fun h4 => ?_)
          refine V_il2 d_X8_way_7 ?_
          refine U_cs1 d_X8_way_8 (c_X8_isShed) rfl ?_
          refine V_eqB d_X8_way_11 (fun q => (bTF (c1) q).elim) (fun h11 => ?_)
          refine V_il1 d_X8_way_14 ?_
          refine V_il2 d_X8_way_15 ?_
          refine V_ic_eq d_X8_way_16 (fun h16 => ?_) (fun q => absurd c2 q)
          refine V_ki d_X8_way_29 ?_
          exact V_iret d_X8_way_31 rfl (by first | rfl | simp_all) rfl
        · refine Rn_of hp_X9_way [some (.ref (gB G + 22)), some (.int a), some (.int c), some (.int v), none] rfl (Nat.le_of_ble_eq_true rfl) (Nat.le_of_ble_eq_true rfl) ?_
          refine V_il1 d_X9_way_0 ?_
          refine U_cs1 d_X9_way_1 (c_X9_isShed) rfl ?_
          refine V_eqB d_X9_way_4 (fun q => (bTF (c0) q).elim) (fun h4 => ?_)
          refine V_il2 d_X9_way_7 ?_
          refine U_cs1 d_X9_way_8 (c_X9_isShed) rfl ?_
          refine V_eqB d_X9_way_11 (fun q => (bTF (c1) q).elim) (fun h11 => ?_)
          refine V_il1 d_X9_way_14 ?_
          refine V_il2 d_X9_way_15 ?_
          refine V_ic_eq d_X9_way_16 (fun h16 => ?_) (fun q => absurd c2 q)
          refine V_ki d_X9_way_29 ?_
          exact V_iret d_X9_way_31 rfl (by first | rfl | simp_all) rfl
      · cases c3 : inR v (nI 1) (nI 9) with
        | false =>
          refine ⟨-2, S, S, ?_, ?_, ⟨b, sz, ft, N, w, wy, lk, nd, hx, hB, h⟩⟩
          · refine Rn_of hp_X8_way [some (.ref (gB G + 0)), some (.int a), some (.int c), some (.int v)] rfl (Nat.le_of_ble_eq_true rfl) (Nat.le_of_ble_eq_true rfl) ?_
            refine V_il1 d_X8_way_0 ?_
            refine U_cs1 d_X8_way_1 (c_X8_isShed) rfl ?_
            refine V_eqB d_X8_way_4 (fun q => (bTF (c0) q).elim) (fun h4 => ?_)
            refine V_il2 d_X8_way_7 ?_
            refine U_cs1 d_X8_way_8 (c_X8_isShed) rfl ?_
            refine V_eqB d_X8_way_11 (fun q => (bTF (c1) q).elim) (fun h11 => ?_)
            refine V_il1 d_X8_way_14 ?_
            refine V_il2 d_X8_way_15 ?_
            refine V_ic_eq d_X8_way_16 (fun q => absurd q c2) (fun h16 => ?_)
            refine V_il3 d_X8_way_19 ?_
            refine V_ki d_X8_way_20 ?_
            refine V_ki d_X8_way_21 ?_
            refine U_cs3 d_X8_way_23 (c_X8_within) rfl ?_
            refine V_neB d_X8_way_26 (fun q => (bTF q (c3)).elim) (fun h26 => ?_)
            refine V_ki d_X8_way_29 ?_
            exact V_iret d_X8_way_31 rfl (by first | rfl | simp_all) rfl
          · refine Rn_of hp_X9_way [some (.ref (gB G + 22)), some (.int a), some (.int c), some (.int v), none] rfl (Nat.le_of_ble_eq_true rfl) (Nat.le_of_ble_eq_true rfl) ?_
            refine V_il1 d_X9_way_0 ?_
            refine U_cs1 d_X9_way_1 (c_X9_isShed) rfl ?_
            refine V_eqB d_X9_way_4 (fun q => (bTF (c0) q).elim) (fun h4 => ?_)
            refine V_il2 d_X9_way_7 ?_
            refine U_cs1 d_X9_way_8 (c_X9_isShed) rfl ?_
            refine V_eqB d_X9_way_11 (fun q => (bTF (c1) q).elim) (fun h11 => ?_)
            refine V_il1 d_X9_way_14 ?_
            refine V_il2 d_X9_way_15 ?_
            refine V_ic_eq d_X9_way_16 (fun q => absurd q c2) (fun h16 => ?_)
            refine V_il3 d_X9_way_19 ?_
            refine V_ki d_X9_way_20 ?_
            refine V_ki d_X9_way_21 ?_
            refine U_cs3 d_X9_way_23 (c_X9_in) rfl ?_
            refine V_neB d_X9_way_26 (fun q => (bTF q (c3)).elim) (fun h26 => ?_)
            refine V_ki d_X9_way_29 ?_
            exact V_iret d_X9_way_31 rfl (by first | rfl | simp_all) rfl
        | true =>
          obtain ⟨x, hx5, rfl⟩ := inR_ex (by decide) c0
          obtain ⟨y, hy5, rfl⟩ := inR_ex (by decide) c1
          obtain ⟨k, hk1, hk, rfl⟩ := in1_ex (by decide) c3
          have hw := c_X3_changeWay (G := G) (S := S) (a := x) (b := y) (v := nI k) (by omega) (by omega)
          rw [hhc.2.1 _ (by omega)] at hw
          have hc' : HVc (sI (sI (sI (sI S 3 (x * 6 + y) (nI k)) 3 (y * 6 + x) (nI k)) 27 (6 * x + y) (nI k)) 27 (6 * y + x) (nI k)) w (fun i => if i = y * 6 + x then k else if i = x * 6 + y then k else wy i) lk nd := by
            refine ⟨hhc.1, fun i hi => ?_, hhc.2.2.1, hhc.2.2.2⟩
            show (if 3 = 3 ∧ i = y * 6 + x then nI k else if 3 = 3 ∧ i = x * 6 + y then nI k else S.1 3 i) = nI (if i = y * 6 + x then k else if i = x * 6 + y then k else wy i)
            by_cases e : i = y * 6 + x
            · rw [if_pos ⟨rfl, by omega⟩, if_pos e]
            · rw [if_neg (fun z => e (by omega)), if_neg e]
              by_cases e2 : i = x * 6 + y
              · rw [if_pos ⟨rfl, by omega⟩, if_pos e2]
              · rw [if_neg (fun z => e2 (by omega)), if_neg e2]
                exact hhc.2.1 i hi
          have hm' : HVm (sI (sI (sI (sI S 3 (x * 6 + y) (nI k)) 3 (y * 6 + x) (nI k)) 27 (6 * x + y) (nI k)) 27 (6 * y + x) (nI k)) w (fun i => if i = y * 6 + x then k else if i = x * 6 + y then k else wy i) lk nd := by
            refine ⟨hhm.1, fun i hi => ?_, hhm.2.2.1, hhm.2.2.2⟩
            show (if 27 = 27 ∧ i = 6 * y + x then nI k else if 27 = 27 ∧ i = 6 * x + y then nI k else S.1 27 i) = nI (if i = y * 6 + x then k else if i = x * 6 + y then k else wy i)
            by_cases e : i = y * 6 + x
            · rw [if_pos ⟨rfl, by omega⟩, if_pos e]
            · rw [if_neg (fun z => e (by omega)), if_neg e]
              by_cases e2 : i = x * 6 + y
              · rw [if_pos ⟨rfl, by omega⟩, if_pos e2]
              · rw [if_neg (fun z => e2 (by omega)), if_neg e2]
                exact hhm.2.1 i hi
          have hB' : HB w (fun i => if i = y * 6 + x then k else if i = x * 6 + y then k else wy i) lk nd := by
            refine ⟨hB.1, fun i => ?_, hB.2.2⟩
            show (if i = y * 6 + x then k else if i = x * 6 + y then k else wy i) ≤ 9
            split
            · omega
            · split
              · omega
              · exact hB.2.1 i
          have hst := ST_harb h ((((Ag.rf.sI rfl).sI rfl).sI rfl).sI rfl) hc' hm'
          have hl : (sI (sI S 3 (x * 6 + y) (nI k)) 3 (y * 6 + x) (nI k)).1 27 (6 * x + y) = nI (wy (x * 6 + y)) := by
            have := hhm.2.1 (x * 6 + y) (by omega)
            rw [show x * 6 + y = 6 * x + y by omega] at this ⊢
            exact this
          refine ⟨nI (wy (x * 6 + y)), sI (sI S 3 (x * 6 + y) (nI k)) 3 (y * 6 + x) (nI k), sI (sI (sI (sI S 3 (x * 6 + y) (nI k)) 3 (y * 6 + x) (nI k)) 27 (6 * x + y) (nI k)) 27 (6 * y + x) (nI k), ?_, ?_, ⟨b, sz, ft, N, w, _, lk, nd, hx, hB', hst⟩⟩
          · refine Rn_of hp_X8_way [some (.ref (gB G + 0)), some (.int (nI x)), some (.int (nI y)), some (.int (nI k))] rfl (Nat.le_of_ble_eq_true rfl) (Nat.le_of_ble_eq_true rfl) ?_
            refine V_il1 d_X8_way_0 ?_
            refine U_cs1 d_X8_way_1 (c_X8_isShed) rfl ?_
            refine V_eqB d_X8_way_4 (fun q => (bTF (c0) q).elim) (fun h4 => ?_)
            refine V_il2 d_X8_way_7 ?_
            refine U_cs1 d_X8_way_8 (c_X8_isShed) rfl ?_
            refine V_eqB d_X8_way_11 (fun q => (bTF (c1) q).elim) (fun h11 => ?_)
            refine V_il1 d_X8_way_14 ?_
            refine V_il2 d_X8_way_15 ?_
            refine V_ic_eq d_X8_way_16 (fun q => absurd q c2) (fun h16 => ?_)
            refine V_il3 d_X8_way_19 ?_
            refine V_ki d_X8_way_20 ?_
            refine V_ki d_X8_way_21 ?_
            refine U_cs3 d_X8_way_23 (c_X8_within) rfl ?_
            refine V_neB d_X8_way_26 (fun h26 => ?_) (fun q => (bTF (c3) q).elim)
            refine V_al0 d_X8_way_32 ?_
            refine V_getR d_X8_way_33 rfl rfl (by decide) rfl ?_
            refine V_il1 d_X8_way_36 ?_
            refine V_il2 d_X8_way_37 ?_
            refine V_il3 d_X8_way_38 ?_
            refine U_cv3 d_X8_way_39 (hw) rfl rfl rfl ?_
            exact V_iret d_X8_way_42 rfl (by first | rfl | simp_all) rfl
          · refine Rn_of hp_X9_way [some (.ref (gB G + 22)), some (.int (nI x)), some (.int (nI y)), some (.int (nI k)), none] rfl (Nat.le_of_ble_eq_true rfl) (Nat.le_of_ble_eq_true rfl) ?_
            refine V_il1 d_X9_way_0 ?_
            refine U_cs1 d_X9_way_1 (c_X9_isShed) rfl ?_
            refine V_eqB d_X9_way_4 (fun q => (bTF (c0) q).elim) (fun h4 => ?_)
            refine V_il2 d_X9_way_7 ?_
            refine U_cs1 d_X9_way_8 (c_X9_isShed) rfl ?_
            refine V_eqB d_X9_way_11 (fun q => (bTF (c1) q).elim) (fun h11 => ?_)
            refine V_il1 d_X9_way_14 ?_
            refine V_il2 d_X9_way_15 ?_
            refine V_ic_eq d_X9_way_16 (fun q => absurd q c2) (fun h16 => ?_)
            refine V_il3 d_X9_way_19 ?_
            refine V_ki d_X9_way_20 ?_
            refine V_ki d_X9_way_21 ?_
            refine U_cs3 d_X9_way_23 (c_X9_in) rfl ?_
            refine V_neB d_X9_way_26 (fun h26 => ?_) (fun q => (bTF (c3) q).elim)
            refine V_al0 d_X9_way_32 ?_
            refine V_getR d_X9_way_33 rfl rfl (by decide) rfl ?_
            refine V_ki d_X9_way_36 ?_
            refine V_il1 d_X9_way_38 ?_
            first | with_reducible refine V_imulN d_X9_way_39 ?_ | refine V_imul d_X9_way_39 ?_
            refine V_il2 d_X9_way_40 ?_
            first | with_reducible refine V_iaddN d_X9_way_41 ?_ | refine V_iadd d_X9_way_41 ?_
            refine V_ialdE d_X9_way_42 rfl (by decide) rfl (show 6 * x + y < 36 by omega) hl ?_
            refine V_is4 d_X9_way_43 rfl ?_
            refine V_al0 d_X9_way_45 ?_
            refine V_getR d_X9_way_46 rfl rfl (by decide) rfl ?_
            refine V_ki d_X9_way_49 ?_
            refine V_il1 d_X9_way_51 ?_
            first | with_reducible refine V_imulN d_X9_way_52 ?_ | refine V_imul d_X9_way_52 ?_
            refine V_il2 d_X9_way_53 ?_
            first | with_reducible refine V_iaddN d_X9_way_54 ?_ | refine V_iadd d_X9_way_54 ?_
            refine V_il3 d_X9_way_55 ?_
            refine V_iast d_X9_way_56 rfl (by decide) rfl (show 6 * x + y < 36 by omega) ?_
            refine V_al0 d_X9_way_57 ?_
            refine V_getR d_X9_way_58 rfl rfl (by decide) rfl ?_
            refine V_ki d_X9_way_61 ?_
            refine V_il2 d_X9_way_63 ?_
            first | with_reducible refine V_imulN d_X9_way_64 ?_ | refine V_imul d_X9_way_64 ?_
            refine V_il1 d_X9_way_65 ?_
            first | with_reducible refine V_iaddN d_X9_way_66 ?_ | refine V_iadd d_X9_way_66 ?_
            refine V_il3 d_X9_way_67 ?_
            refine V_iast d_X9_way_68 rfl (by decide) rfl (show 6 * y + x < 36 by omega) ?_
            refine V_il4 d_X9_way_69 ?_
            exact V_iret d_X9_way_71 rfl (by first | rfl | simp_all) rfl
set_option maxRecDepth 100000 in
theorem o_set {G : Gm} {a v : Int32} : OPI G M_X8_set M_X9_set [.int a, .int v] := by
  intro S hS
  obtain ⟨b, sz, ft, N, w, wy, lk, nd, hx, hB, h⟩ := hS
  obtain ⟨⟨hsz, hbs⟩, hcn, hmt, hhc, hhm, hsh, hfd⟩ := id h
  have hN := PR_wf hx.2.2
  have hN8 := hN.1
  cases c0 : inR a (nI 0) (nI 1) with
  | false =>
    have e0 : ¬ a = nI 0 := fun e => by rw [e, inR_T (by omega) (by decide)] at c0; cases c0
    have e1 : ¬ a = nI 1 := fun e => by rw [e, inR_T (by omega) (by decide)] at c0; cases c0
    refine ⟨-2, S, S, ?_, ?_, ⟨b, sz, ft, N, w, wy, lk, nd, hx, hB, h⟩⟩
    · refine Rn_of hp_X8_set [some (.ref (gB G + 0)), some (.int a), some (.int v)] rfl (Nat.le_of_ble_eq_true rfl) (Nat.le_of_ble_eq_true rfl) ?_
      refine V_il1 d_X8_set_0 ?_
      refine V_if_ne d_X8_set_1 (fun h1 => ?_) (fun q => absurd q e0)
      refine V_il1 d_X8_set_22 ?_
      refine V_ki d_X8_set_23 ?_
      refine V_ic_ne d_X8_set_24 (fun h24 => ?_) (fun q => absurd q e1)
      refine V_ki d_X8_set_46 ?_
      exact V_iret d_X8_set_48 rfl (by first | rfl | simp_all) rfl
    · refine Rn_of hp_X9_set [some (.ref (gB G + 22)), some (.int a), some (.int v), none] rfl (Nat.le_of_ble_eq_true rfl) (Nat.le_of_ble_eq_true rfl) ?_
      refine V_il1 d_X9_set_0 ?_
      refine V_ki d_X9_set_1 ?_
      refine V_ki d_X9_set_2 ?_
      refine U_cs3 d_X9_set_3 (c_X9_in) rfl ?_
      refine V_eqB d_X9_set_6 (fun h6 => ?_) (fun q => (bTF q (c0)).elim)
      refine V_ki d_X9_set_27 ?_
      exact V_iret d_X9_set_29 rfl (by first | rfl | simp_all) rfl
  | true =>
    obtain ⟨j, hj, rfl⟩ := inR_ex (by decide) c0
    rcases (show j = 0 ∨ j = 1 by omega) with rfl | rfl
    · cases c1 : inR v (nI 1) (nI 5) with
      | false =>
        refine ⟨-2, S, S, ?_, ?_, ⟨b, sz, ft, N, w, wy, lk, nd, hx, hB, h⟩⟩
        · refine Rn_of hp_X8_set [some (.ref (gB G + 0)), some (.int (nI 0)), some (.int v)] rfl (Nat.le_of_ble_eq_true rfl) (Nat.le_of_ble_eq_true rfl) ?_
          refine V_il1 d_X8_set_0 ?_
          refine V_if_ne d_X8_set_1 (fun q => absurd rfl q) (fun h1 => ?_)
          refine V_il2 d_X8_set_4 ?_
          refine V_ki d_X8_set_5 ?_
          refine V_ki d_X8_set_6 ?_
          refine U_cs3 d_X8_set_7 (c_X8_within) rfl ?_
          refine V_eqB d_X8_set_10 (fun h10 => ?_) (fun q => (bTF q (c1)).elim)
          refine V_il1 d_X8_set_22 ?_
          refine V_ki d_X8_set_23 ?_
          refine V_ic_ne d_X8_set_24 (fun h24 => ?_) (fun q => absurd q (by decide))
          refine V_ki d_X8_set_46 ?_
          exact V_iret d_X8_set_48 rfl (by first | rfl | simp_all) rfl
        · refine Rn_of hp_X9_set [some (.ref (gB G + 22)), some (.int (nI 0)), some (.int v), none] rfl (Nat.le_of_ble_eq_true rfl) (Nat.le_of_ble_eq_true rfl) ?_
          refine V_il1 d_X9_set_0 ?_
          refine V_ki d_X9_set_1 ?_
          refine V_ki d_X9_set_2 ?_
          refine U_cs3 d_X9_set_3 (c_X9_in) rfl ?_
          refine V_eqB d_X9_set_6 (fun q => (bTF (c0) q).elim) (fun h6 => ?_)
          refine V_il2 d_X9_set_9 ?_
          refine V_ki d_X9_set_10 ?_
          refine V_il1 d_X9_set_11 ?_
          refine V_if_ne d_X9_set_12 (fun q => absurd rfl q) (fun h12 => ?_)
          refine V_ki d_X9_set_15 ?_
          refine V_goto d_X9_set_16 ?_
          refine U_cs3 d_X9_set_21 (c_X9_in) rfl ?_
          refine V_neB d_X9_set_24 (fun q => (bTF q (c1)).elim) (fun h24 => ?_)
          refine V_ki d_X9_set_27 ?_
          exact V_iret d_X9_set_29 rfl (by first | rfl | simp_all) rfl
      | true =>
        obtain ⟨k, hk1, hk, rfl⟩ := in1_ex (by decide) c1
        have hst : ST (sI (sI (sI S 1 2 (nI k)) 22 7 (nI k)) 22 8 (nI nd)) b sz ft N w wy k nd := ST_harb h (((Ag.rf.sI rfl).sI rfl).sI rfl) ⟨hhc.1, hhc.2.1, rfl, hhc.2.2.2⟩ ⟨hhm.1, hhm.2.1, rfl, rfl⟩
        have hw := c_X3_changeLook (G := G) (S := S) (v := nI k)
        rw [hhc.2.2.1] at hw
        refine ⟨nI lk, sI S 1 2 (nI k), sI (sI (sI S 1 2 (nI k)) 22 7 (nI k)) 22 8 (nI nd), ?_, ?_, ⟨b, sz, ft, N, w, wy, k, nd, hx, ⟨hB.1, hB.2.1, ⟨hk1, hk⟩, hB.2.2.2⟩, hst⟩⟩
        · refine Rn_of hp_X8_set [some (.ref (gB G + 0)), some (.int (nI 0)), some (.int (nI k))] rfl (Nat.le_of_ble_eq_true rfl) (Nat.le_of_ble_eq_true rfl) ?_
          refine V_il1 d_X8_set_0 ?_
          refine V_if_ne d_X8_set_1 (fun q => absurd rfl q) (fun h1 => ?_)
          refine V_il2 d_X8_set_4 ?_
          refine V_ki d_X8_set_5 ?_
          refine V_ki d_X8_set_6 ?_
          refine U_cs3 d_X8_set_7 (c_X8_within) rfl ?_
          refine V_eqB d_X8_set_10 (fun q => (bTF (c1) q).elim) (fun h10 => ?_)
          refine V_al0 d_X8_set_13 ?_
          refine V_getR d_X8_set_14 rfl rfl (by decide) rfl ?_
          refine V_il2 d_X8_set_17 ?_
          refine U_cv1 d_X8_set_18 (hw) rfl rfl rfl ?_
          exact V_iret d_X8_set_21 rfl (by first | rfl | simp_all) rfl
        · refine Rn_of hp_X9_set [some (.ref (gB G + 22)), some (.int (nI 0)), some (.int (nI k)), none] rfl (Nat.le_of_ble_eq_true rfl) (Nat.le_of_ble_eq_true rfl) ?_
          refine V_il1 d_X9_set_0 ?_
          refine V_ki d_X9_set_1 ?_
          refine V_ki d_X9_set_2 ?_
          refine U_cs3 d_X9_set_3 (c_X9_in) rfl ?_
          refine V_eqB d_X9_set_6 (fun q => (bTF (c0) q).elim) (fun h6 => ?_)
          refine V_il2 d_X9_set_9 ?_
          refine V_ki d_X9_set_10 ?_
          refine V_il1 d_X9_set_11 ?_
          refine V_if_ne d_X9_set_12 (fun q => absurd rfl q) (fun h12 => ?_)
          refine V_ki d_X9_set_15 ?_
          refine V_goto d_X9_set_16 ?_
          refine U_cs3 d_X9_set_21 (c_X9_in) rfl ?_
          refine V_neB d_X9_set_24 (fun h24 => ?_) (fun q => (bTF (c1) q).elim)
          refine V_il1 d_X9_set_30 ?_
          refine V_if_ne d_X9_set_31 (fun q => absurd rfl q) (fun h31 => ?_)
          refine V_al0 d_X9_set_34 ?_
          refine V_getIe d_X9_set_35 rfl rfl (by decide) (hhm.2.2.1) ?_
          refine V_goto d_X9_set_38 ?_
          refine V_is3 d_X9_set_45 rfl ?_
          refine V_al0 d_X9_set_46 ?_
          refine V_il1 d_X9_set_47 ?_
          refine V_if_ne d_X9_set_48 (fun q => absurd rfl q) (fun h48 => ?_)
          refine V_il2 d_X9_set_51 ?_
          refine V_goto d_X9_set_52 ?_
          refine V_putI d_X9_set_59 rfl rfl (by decide) rfl ?_
          refine V_al0 d_X9_set_62 ?_
          refine V_il1 d_X9_set_63 ?_
          refine V_ki d_X9_set_64 ?_
          refine V_ic_ne d_X9_set_65 (fun h65 => ?_) (fun q => absurd q (by decide))
          refine V_al0 d_X9_set_72 ?_
          refine V_getIe d_X9_set_73 rfl rfl (by decide) (hhm.2.2.2) ?_
          refine V_putI d_X9_set_76 rfl rfl (by decide) rfl ?_
          refine V_il3 d_X9_set_79 ?_
          exact V_iret d_X9_set_80 rfl (by first | rfl | simp_all) rfl
    · cases c1 : inR v (nI 1) (nI 20) with
      | false =>
        refine ⟨-2, S, S, ?_, ?_, ⟨b, sz, ft, N, w, wy, lk, nd, hx, hB, h⟩⟩
        · refine Rn_of hp_X8_set [some (.ref (gB G + 0)), some (.int (nI 1)), some (.int v)] rfl (Nat.le_of_ble_eq_true rfl) (Nat.le_of_ble_eq_true rfl) ?_
          refine V_il1 d_X8_set_0 ?_
          refine V_if_ne d_X8_set_1 (fun h1 => ?_) (fun q => absurd q (by decide))
          refine V_il1 d_X8_set_22 ?_
          refine V_ki d_X8_set_23 ?_
          refine V_ic_ne d_X8_set_24 (fun q => absurd rfl q) (fun h24 => ?_)
          refine V_il2 d_X8_set_27 ?_
          refine V_ki d_X8_set_28 ?_
          refine V_ki d_X8_set_29 ?_
          refine U_cs3 d_X8_set_31 (c_X8_within) rfl ?_
          refine V_eqB d_X8_set_34 (fun h34 => ?_) (fun q => (bTF q (c1)).elim)
          refine V_ki d_X8_set_46 ?_
          exact V_iret d_X8_set_48 rfl (by first | rfl | simp_all) rfl
        · refine Rn_of hp_X9_set [some (.ref (gB G + 22)), some (.int (nI 1)), some (.int v), none] rfl (Nat.le_of_ble_eq_true rfl) (Nat.le_of_ble_eq_true rfl) ?_
          refine V_il1 d_X9_set_0 ?_
          refine V_ki d_X9_set_1 ?_
          refine V_ki d_X9_set_2 ?_
          refine U_cs3 d_X9_set_3 (c_X9_in) rfl ?_
          refine V_eqB d_X9_set_6 (fun q => (bTF (c0) q).elim) (fun h6 => ?_)
          refine V_il2 d_X9_set_9 ?_
          refine V_ki d_X9_set_10 ?_
          refine V_il1 d_X9_set_11 ?_
          refine V_if_ne d_X9_set_12 (fun h12 => ?_) (fun q => absurd q (by decide))
          refine V_ki d_X9_set_19 ?_
          refine U_cs3 d_X9_set_21 (c_X9_in) rfl ?_
          refine V_neB d_X9_set_24 (fun q => (bTF q (c1)).elim) (fun h24 => ?_)
          refine V_ki d_X9_set_27 ?_
          exact V_iret d_X9_set_29 rfl (by first | rfl | simp_all) rfl
      | true =>
        obtain ⟨k, hk1, hk, rfl⟩ := in1_ex (by decide) c1
        have hst : ST (sI (sI (sI S 1 3 (nI k)) 22 7 (nI lk)) 22 8 (nI k)) b sz ft N w wy lk k := ST_harb h (((Ag.rf.sI rfl).sI rfl).sI rfl) ⟨hhc.1, hhc.2.1, hhc.2.2.1, rfl⟩ ⟨hhm.1, hhm.2.1, rfl, rfl⟩
        have hw := c_X3_changeNeed (G := G) (S := S) (v := nI k)
        rw [hhc.2.2.2] at hw
        refine ⟨nI nd, sI S 1 3 (nI k), sI (sI (sI S 1 3 (nI k)) 22 7 (nI lk)) 22 8 (nI k), ?_, ?_, ⟨b, sz, ft, N, w, wy, lk, k, hx, ⟨hB.1, hB.2.1, hB.2.2.1, ⟨hk1, hk⟩⟩, hst⟩⟩
        · refine Rn_of hp_X8_set [some (.ref (gB G + 0)), some (.int (nI 1)), some (.int (nI k))] rfl (Nat.le_of_ble_eq_true rfl) (Nat.le_of_ble_eq_true rfl) ?_
          refine V_il1 d_X8_set_0 ?_
          refine V_if_ne d_X8_set_1 (fun h1 => ?_) (fun q => absurd q (by decide))
          refine V_il1 d_X8_set_22 ?_
          refine V_ki d_X8_set_23 ?_
          refine V_ic_ne d_X8_set_24 (fun q => absurd rfl q) (fun h24 => ?_)
          refine V_il2 d_X8_set_27 ?_
          refine V_ki d_X8_set_28 ?_
          refine V_ki d_X8_set_29 ?_
          refine U_cs3 d_X8_set_31 (c_X8_within) rfl ?_
          refine V_eqB d_X8_set_34 (fun q => (bTF (c1) q).elim) (fun h34 => ?_)
          refine V_al0 d_X8_set_37 ?_
          refine V_getR d_X8_set_38 rfl rfl (by decide) rfl ?_
          refine V_il2 d_X8_set_41 ?_
          refine U_cv1 d_X8_set_42 (hw) rfl rfl rfl ?_
          exact V_iret d_X8_set_45 rfl (by first | rfl | simp_all) rfl
        · refine Rn_of hp_X9_set [some (.ref (gB G + 22)), some (.int (nI 1)), some (.int (nI k)), none] rfl (Nat.le_of_ble_eq_true rfl) (Nat.le_of_ble_eq_true rfl) ?_
          refine V_il1 d_X9_set_0 ?_
          refine V_ki d_X9_set_1 ?_
          refine V_ki d_X9_set_2 ?_
          refine U_cs3 d_X9_set_3 (c_X9_in) rfl ?_
          refine V_eqB d_X9_set_6 (fun q => (bTF (c0) q).elim) (fun h6 => ?_)
          refine V_il2 d_X9_set_9 ?_
          refine V_ki d_X9_set_10 ?_
          refine V_il1 d_X9_set_11 ?_
          refine V_if_ne d_X9_set_12 (fun h12 => ?_) (fun q => absurd q (by decide))
          refine V_ki d_X9_set_19 ?_
          refine U_cs3 d_X9_set_21 (c_X9_in) rfl ?_
          refine V_neB d_X9_set_24 (fun h24 => ?_) (fun q => (bTF (c1) q).elim)
          refine V_il1 d_X9_set_30 ?_
          refine V_if_ne d_X9_set_31 (fun h31 => ?_) (fun q => absurd q (by decide))
          refine V_al0 d_X9_set_41 ?_
          refine V_getIe d_X9_set_42 rfl rfl (by decide) (hhm.2.2.2) ?_
          refine V_is3 d_X9_set_45 rfl ?_
          refine V_al0 d_X9_set_46 ?_
          refine V_il1 d_X9_set_47 ?_
          refine V_if_ne d_X9_set_48 (fun h48 => ?_) (fun q => absurd q (by decide))
          refine V_al0 d_X9_set_55 ?_
          refine V_getIe d_X9_set_56 rfl rfl (by decide) (hhm.2.2.1) ?_
          refine V_putI d_X9_set_59 rfl rfl (by decide) rfl ?_
          refine V_al0 d_X9_set_62 ?_
          refine V_il1 d_X9_set_63 ?_
          refine V_ki d_X9_set_64 ?_
          refine V_ic_ne d_X9_set_65 (fun q => absurd rfl q) (fun h65 => ?_)
          refine V_il2 d_X9_set_68 ?_
          refine V_goto d_X9_set_69 ?_
          refine V_putI d_X9_set_76 rfl rfl (by decide) rfl ?_
          refine V_il3 d_X9_set_79 ?_
          exact V_iret d_X9_set_80 rfl (by first | rfl | simp_all) rfl
