set_option maxRecDepth 100000 in
theorem c_X4_isTold {G : Gm} {S : AS} {t : Nat} {v : Int32} (ht : S.1 4 4 = nI t) (h8 : t ≤ 8) : Rm G M_X4_isTold [.ref (gB G + 4), .int v] S (some (.int (bI (tolB v t)))) S := by
  refine Rn_of hp_X4_isTold [some (.ref (gB G + 4)), some (.int v)] rfl (Nat.le_of_ble_eq_true rfl) (Nat.le_of_ble_eq_true rfl) ?_
  refine V_il1 d_X4_isTold_0 ?_
  refine V_if_lt d_X4_isTold_1 (fun h1 => ?_) (fun h1 => ?_)
  · first | (have hf : tolB v t = false := by simp [tolB, h1]) | (have hf : tolB v t = false := by simp [tolB, Int32.not_lt.mpr h9])
    refine V_ki d_X4_isTold_16 ?_
    exact V_zret d_X4_isTold_17 rfl rfl (by first | rw [bI_f hf] | rw [bI_t (show tolB v t = true by simp [tolB, Int32.not_lt.mp h1, Int32.not_le.mp h9])]) rfl
  · refine V_il1 d_X4_isTold_4 ?_
    refine V_al0 d_X4_isTold_5 ?_
    refine V_getIe d_X4_isTold_6 rfl rfl (by decide) (ht) ?_
    refine V_ic_ge d_X4_isTold_9 (fun h9 => ?_) (fun h9 => ?_)
    · first | (have hf : tolB v t = false := by simp [tolB, h1]) | (have hf : tolB v t = false := by simp [tolB, Int32.not_lt.mpr h9])
      refine V_ki d_X4_isTold_16 ?_
      exact V_zret d_X4_isTold_17 rfl rfl (by first | rw [bI_f hf] | rw [bI_t (show tolB v t = true by simp [tolB, Int32.not_lt.mp h1, Int32.not_le.mp h9])]) rfl
    · refine V_ki d_X4_isTold_12 ?_
      refine V_goto d_X4_isTold_13 ?_
      exact V_zret d_X4_isTold_17 rfl rfl (by first | rw [bI_f hf] | rw [bI_t (show tolB v t = true by simp [tolB, Int32.not_lt.mp h1, Int32.not_le.mp h9])]) rfl
set_option maxRecDepth 100000 in
theorem c_X4_lengthOf {G : Gm} {S : AS} {ft : Int32} {N : List (List Nat)} {n : Nat} (hv : CNv S ft N) (hN : WFN N) (hn : n < N.length) : Rm G M_X4_lengthOf [.ref (gB G + 4), .int (nI n)] S (some (.int (nI (ni N n).length))) S := by
  have h8 := hN.1
  refine Rn_of hp_X4_lengthOf [some (.ref (gB G + 4)), some (.int (nI n))] rfl (Nat.le_of_ble_eq_true rfl) (Nat.le_of_ble_eq_true rfl) ?_
  refine V_il1 d_X4_lengthOf_0 ?_
  refine U_if_ltN d_X4_lengthOf_1 (by omega) (fun q => absurd q (by omega)) (fun h1 => ?_)
  refine V_il1 d_X4_lengthOf_4 ?_
  refine V_al0 d_X4_lengthOf_5 ?_
  refine V_getIe d_X4_lengthOf_6 rfl rfl (by decide) (hv.2.1) ?_
  refine U_ic_geN d_X4_lengthOf_9 (by omega) (by omega) (fun q => absurd q (by omega)) (fun h9 => ?_)
  refine V_il1 d_X4_lengthOf_12 ?_
  refine V_al0 d_X4_lengthOf_13 ?_
  refine V_getR d_X4_lengthOf_14 rfl rfl (by decide) rfl ?_
  refine V_alen d_X4_lengthOf_17 rfl (by decide) ?_
  refine U_ic_geN d_X4_lengthOf_18 (by omega) (by omega) (fun q => absurd q (by omega)) (fun h18 => ?_)
  refine V_al0 d_X4_lengthOf_21 ?_
  refine V_getR d_X4_lengthOf_22 rfl rfl (by decide) rfl ?_
  refine V_il1 d_X4_lengthOf_25 ?_
  refine V_ialdE d_X4_lengthOf_26 rfl (by decide) rfl (show n < 8 by omega) (hv.2.2.1 n hn) ?_
  refine V_goto d_X4_lengthOf_27 ?_
  exact V_iret d_X4_lengthOf_31 rfl (by first | rfl | simp_all) rfl
set_option maxRecDepth 100000 in
theorem c_X4_shedOf {G : Gm} {S : AS} {ft : Int32} {N : List (List Nat)} {n j : Nat} (hv : CNv S ft N) (hN : WFN N) (hn : n < N.length) (hj : j < 2 ^ 31) : Rm G M_X4_shedOf [.ref (gB G + 4), .int (nI n), .int (nI j)] S (some (.int (sh (ni N n) j))) S := by
  have h8 := hN.1
  have h6 := ni_le hN hn
  refine Rn_of hp_X4_shedOf [some (.ref (gB G + 4)), some (.int (nI n)), some (.int (nI j)), none, none] rfl (Nat.le_of_ble_eq_true rfl) (Nat.le_of_ble_eq_true rfl) ?_
  rcases Nat.lt_or_ge j 6 with g | g
  · refine V_il1 d_X4_shedOf_0 ?_
    refine U_if_ltN d_X4_shedOf_1 (by omega) (fun q => absurd q (by omega)) (fun h1 => ?_)
    refine V_il1 d_X4_shedOf_4 ?_
    refine V_al0 d_X4_shedOf_5 ?_
    refine V_getIe d_X4_shedOf_6 rfl rfl (by decide) (hv.2.1) ?_
    refine U_ic_geN d_X4_shedOf_9 (by omega) (by omega) (fun q => absurd q (by omega)) (fun h9 => ?_)
    refine V_il2 d_X4_shedOf_12 ?_
    refine U_if_ltN d_X4_shedOf_13 (by omega) (fun q => absurd q (by omega)) (fun h13 => ?_)
    refine V_il2 d_X4_shedOf_16 ?_
    refine V_ki d_X4_shedOf_17 ?_
    refine U_ic_geN d_X4_shedOf_19 (by omega) (by omega) (fun q => absurd q (by omega)) (fun h19 => ?_)
    refine V_ki d_X4_shedOf_22 ?_
    refine V_goto d_X4_shedOf_23 ?_
    refine V_is3 d_X4_shedOf_27 rfl ?_
    refine V_il3 d_X4_shedOf_28 ?_
    refine U_if_eqN d_X4_shedOf_29 (by omega) (fun q => absurd q (by omega)) (fun h29 => ?_)
    refine V_il1 d_X4_shedOf_32 ?_
    refine V_ki d_X4_shedOf_33 ?_
    first | with_reducible refine V_imulN d_X4_shedOf_35 ?_ | refine V_imul d_X4_shedOf_35 ?_
    refine V_il2 d_X4_shedOf_36 ?_
    first | with_reducible refine V_iaddN d_X4_shedOf_37 ?_ | refine V_iadd d_X4_shedOf_37 ?_
    refine V_goto d_X4_shedOf_38 ?_
    refine V_is4 d_X4_shedOf_42 rfl ?_
    refine V_il4 d_X4_shedOf_44 ?_
    refine U_if_ltN d_X4_shedOf_46 (by omega) (fun q => absurd q (by omega)) (fun h46 => ?_)
    refine V_il4 d_X4_shedOf_49 ?_
    refine V_al0 d_X4_shedOf_51 ?_
    refine V_getR d_X4_shedOf_52 rfl rfl (by decide) rfl ?_
    refine V_alen d_X4_shedOf_55 rfl (by decide) ?_
    refine U_ic_geN d_X4_shedOf_56 (by omega) (by omega) (fun q => absurd q (by omega)) (fun h56 => ?_)
    refine V_al0 d_X4_shedOf_59 ?_
    refine V_getR d_X4_shedOf_60 rfl rfl (by decide) rfl ?_
    refine V_il4 d_X4_shedOf_63 ?_
    refine V_ialdE d_X4_shedOf_65 rfl (by decide) rfl (show n * 6 + j < 48 by omega) (hv.2.2.2 n hn j g) ?_
    refine V_goto d_X4_shedOf_66 ?_
    exact V_iret d_X4_shedOf_70 rfl (by first | rfl | simp_all) rfl
  · have e : sh (ni N n) j = -1 := sh_out (by omega)
    refine V_il1 d_X4_shedOf_0 ?_
    refine U_if_ltN d_X4_shedOf_1 (by omega) (fun q => absurd q (by omega)) (fun h1 => ?_)
    refine V_il1 d_X4_shedOf_4 ?_
    refine V_al0 d_X4_shedOf_5 ?_
    refine V_getIe d_X4_shedOf_6 rfl rfl (by decide) (hv.2.1) ?_
    refine U_ic_geN d_X4_shedOf_9 (by omega) (by omega) (fun q => absurd q (by omega)) (fun h9 => ?_)
    refine V_il2 d_X4_shedOf_12 ?_
    refine U_if_ltN d_X4_shedOf_13 (by omega) (fun q => absurd q (by omega)) (fun h13 => ?_)
    refine V_il2 d_X4_shedOf_16 ?_
    refine V_ki d_X4_shedOf_17 ?_
    refine U_ic_geN d_X4_shedOf_19 (by omega) (by omega) (fun h19 => ?_) (fun q => absurd q (by omega))
    refine V_ki d_X4_shedOf_26 ?_
    refine V_is3 d_X4_shedOf_27 rfl ?_
    refine V_il3 d_X4_shedOf_28 ?_
    refine U_if_eqN d_X4_shedOf_29 (by omega) (fun h29 => ?_) (fun q => absurd rfl q)
    refine V_ki d_X4_shedOf_41 ?_
    refine V_is4 d_X4_shedOf_42 rfl ?_
    refine V_il4 d_X4_shedOf_44 ?_
    refine V_if_lt d_X4_shedOf_46 (fun h46 => ?_) (fun q => absurd (by decide) q)
    refine V_ki d_X4_shedOf_69 ?_
    exact V_iret d_X4_shedOf_70 rfl (by rw [e]) rfl
set_option maxRecDepth 100000 in
theorem c_X4_shedOf_m1 {G : Gm} {S : AS} {ft : Int32} {N : List (List Nat)} {n : Nat} (hv : CNv S ft N) (hN : WFN N) (hn : n < N.length) : Rm G M_X4_shedOf [.ref (gB G + 4), .int (nI n), .int (-1)] S (some (.int (-1))) S := by
  have h8 := hN.1
  refine Rn_of hp_X4_shedOf [some (.ref (gB G + 4)), some (.int (nI n)), some (.int (-1)), none, none] rfl (Nat.le_of_ble_eq_true rfl) (Nat.le_of_ble_eq_true rfl) ?_
  refine V_il1 d_X4_shedOf_0 ?_
  refine U_if_ltN d_X4_shedOf_1 (by omega) (fun q => absurd q (by omega)) (fun h1 => ?_)
  refine V_il1 d_X4_shedOf_4 ?_
  refine V_al0 d_X4_shedOf_5 ?_
  refine V_getIe d_X4_shedOf_6 rfl rfl (by decide) (hv.2.1) ?_
  refine U_ic_geN d_X4_shedOf_9 (by omega) (by omega) (fun q => absurd q (by omega)) (fun h9 => ?_)
  refine V_il2 d_X4_shedOf_12 ?_
  refine V_if_lt d_X4_shedOf_13 (fun h13 => ?_) (fun q => absurd (by decide) q)
  refine V_ki d_X4_shedOf_26 ?_
  refine V_is3 d_X4_shedOf_27 rfl ?_
  refine V_il3 d_X4_shedOf_28 ?_
  refine U_if_eqN d_X4_shedOf_29 (by omega) (fun h29 => ?_) (fun q => absurd rfl q)
  refine V_ki d_X4_shedOf_41 ?_
  refine V_is4 d_X4_shedOf_42 rfl ?_
  refine V_il4 d_X4_shedOf_44 ?_
  refine V_if_lt d_X4_shedOf_46 (fun h46 => ?_) (fun q => absurd (by decide) q)
  refine V_ki d_X4_shedOf_69 ?_
  exact V_iret d_X4_shedOf_70 rfl (by first | rfl | simp_all) rfl
set_option maxRecDepth 100000 in
theorem c_X4_same {G : Gm} {S : AS} {ft : Int32} {N : List (List Nat)} {a b : Nat} (hv : CNv S ft N) (hN : WFN N) (ha : a < N.length) (hb : b < N.length) : Rm G M_X4_same [.ref (gB G + 4), .int (nI a), .int (nI b)] S (some (.int (bI (decide (ni N a = ni N b))))) S := by
  have h8 := hN.1
  have wa := (ni_wf hN ha).2
  have wb := (ni_wf hN hb).2
  have loop : ∀ d i, i + d = 6 → (∀ j, j < i → sh (ni N a) j = sh (ni N b) j) → U G M_X4_same (Ze G (some (.int (bI (decide (ni N a = ni N b))))) S) 2 [some (.ref (gB G + 4)), some (.int (nI a)), some (.int (nI b)), some (.int (nI i))] [] S := by
    intro d
    induction d with
    | zero =>
      intro i hi he
      rw [Nat.add_zero] at hi
      subst hi
      have e := sh_ext wa wb he
      refine V_il3 d_X4_same_2 ?_
      refine V_ki d_X4_same_3 ?_
      refine U_ic_geN d_X4_same_5 (by omega) (by omega) (fun h5 => ?_) (fun q => absurd q (by omega))
      refine V_ki d_X4_same_31 ?_
      exact V_zret d_X4_same_32 rfl rfl (by rw [bI_t (decide_eq_true e)]) rfl
    | succ d ih =>
      intro i hi he
      refine V_il3 d_X4_same_2 ?_
      refine V_ki d_X4_same_3 ?_
      refine U_ic_geN d_X4_same_5 (by omega) (by omega) (fun q => absurd q (by omega)) (fun h5 => ?_)
      refine V_al0 d_X4_same_8 ?_
      refine V_il1 d_X4_same_9 ?_
      refine V_il3 d_X4_same_10 ?_
      refine U_cv2 d_X4_same_11 (c_X4_shedOf hv hN ha (by omega)) rfl rfl rfl ?_
      refine V_al0 d_X4_same_14 ?_
      refine V_il2 d_X4_same_15 ?_
      refine V_il3 d_X4_same_16 ?_
      refine U_cv2 d_X4_same_17 (c_X4_shedOf hv hN hb (by omega)) rfl rfl rfl ?_
      refine V_ic_eq d_X4_same_20 (fun h20 => ?_) (fun h20 => ?_)
      · refine V_icN3 d_X4_same_25 rfl ?_
        refine V_goto d_X4_same_28 ?_
        exact ih (i + 1) (by omega) (lt_s he h20)
      · have e : ¬ ni N a = ni N b := fun e => h20 (by rw [e])
        refine V_ki d_X4_same_23 ?_
        exact V_zret d_X4_same_24 rfl rfl (by rw [bI_f (decide_eq_false e)]) rfl
  refine Rn_of hp_X4_same [some (.ref (gB G + 4)), some (.int (nI a)), some (.int (nI b)), none] rfl (Nat.le_of_ble_eq_true rfl) (Nat.le_of_ble_eq_true rfl) ?_
  refine V_ki d_X4_same_0 ?_
  refine V_is3 d_X4_same_1 rfl ?_
  exact loop 6 0 rfl (fun j hj => absurd hj (Nat.not_lt_zero _))
set_option maxRecDepth 100000 in
theorem c_X4_add_no {G : Gm} {S : AS} {v : Int32} (hsz : S.1 4 3 = nI 60) : Rm G M_X4_add [.ref (gB G + 4), .int v] S (some (.int (bI false))) S := by
  refine Rn_of hp_X4_add [some (.ref (gB G + 4)), some (.int v)] rfl (Nat.le_of_ble_eq_true rfl) (Nat.le_of_ble_eq_true rfl) ?_
  refine V_al0 d_X4_add_0 ?_
  refine V_getIe d_X4_add_1 rfl rfl (by decide) (hsz) ?_
  refine V_ki d_X4_add_4 ?_
  refine U_ic_ltN d_X4_add_6 (by omega) (by omega) (fun q => absurd q (by omega)) (fun h6 => ?_)
  refine V_ki d_X4_add_9 ?_
  exact V_zret d_X4_add_10 rfl rfl (by first | rfl | simp_all) rfl
set_option maxRecDepth 100000 in
theorem c_X4_add {G : Gm} {S SE : AS} {v : Int32} {sz : Nat} (hsz : S.1 4 3 = nI sz) (h60 : sz < 60) (hr : Rm G M_X4_reread [.ref (gB G + 4)] (sI (sI S 5 sz v) 4 3 (nI (sz + 1))) none SE) : Rm G M_X4_add [.ref (gB G + 4), .int v] S (some (.int (bI true))) SE := by
  refine Rn_of hp_X4_add [some (.ref (gB G + 4)), some (.int v)] rfl (Nat.le_of_ble_eq_true rfl) (Nat.le_of_ble_eq_true rfl) ?_
  refine V_al0 d_X4_add_0 ?_
  refine V_getIe d_X4_add_1 rfl rfl (by decide) (hsz) ?_
  refine V_ki d_X4_add_4 ?_
  refine U_ic_ltN d_X4_add_6 (by omega) (by omega) (fun h6 => ?_) (fun q => absurd q (by omega))
  refine V_al0 d_X4_add_11 ?_
  refine V_getR d_X4_add_12 rfl rfl (by decide) rfl ?_
  refine V_al0 d_X4_add_15 ?_
  refine V_getIe d_X4_add_16 rfl rfl (by decide) (hsz) ?_
  refine V_il1 d_X4_add_19 ?_
  refine U_cs3v d_X4_add_20 (c_X8_keep (j := sz) rfl (by decide) rfl (by omega)) rfl ?_
  refine V_al0 d_X4_add_23 ?_
  refine V_dup d_X4_add_24 rfl ?_
  refine V_getIe d_X4_add_25 rfl rfl (by decide) (hsz) ?_
  refine V_ki d_X4_add_28 ?_
  first | with_reducible refine V_iaddN d_X4_add_29 ?_ | refine V_iadd d_X4_add_29 ?_
  refine V_putI d_X4_add_30 rfl rfl (by decide) rfl ?_
  refine V_al0 d_X4_add_33 ?_
  refine U_cv0v d_X4_add_34 (hr) rfl rfl rfl ?_
  refine V_ki d_X4_add_37 ?_
  exact V_zret d_X4_add_38 rfl rfl (by first | rfl | simp_all) rfl
set_option maxRecDepth 100000 in
theorem c_X4_empty {G : Gm} {S SE : AS} {sz : Nat} (hsz : S.1 4 3 = nI sz) (hr : Rm G M_X4_reread [.ref (gB G + 4)] (sI S 4 3 (nI 0)) none SE) : Rm G M_X4_empty [.ref (gB G + 4)] S (some (.int (nI sz))) SE := by
  refine Rn_of hp_X4_empty [some (.ref (gB G + 4)), none] rfl (Nat.le_of_ble_eq_true rfl) (Nat.le_of_ble_eq_true rfl) ?_
  refine V_al0 d_X4_empty_0 ?_
  refine V_getIe d_X4_empty_1 rfl rfl (by decide) (hsz) ?_
  refine V_is1 d_X4_empty_4 rfl ?_
  refine V_al0 d_X4_empty_5 ?_
  refine V_ki d_X4_empty_6 ?_
  refine V_putI d_X4_empty_7 rfl rfl (by decide) rfl ?_
  refine V_al0 d_X4_empty_10 ?_
  refine U_cv0v d_X4_empty_11 (hr) rfl rfl rfl ?_
  refine V_il1 d_X4_empty_14 ?_
  exact V_iret d_X4_empty_15 rfl (by first | rfl | simp_all) rfl
