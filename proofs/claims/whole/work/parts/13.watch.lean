/-! the harbour and the watch -/
def HVc (S : AS) (w wy : Nat → Nat) (lk nd : Nat) : Prop := (∀ i, i < 6 → S.1 2 i = nI (w i)) ∧ (∀ i, i < 36 → S.1 3 i = nI (wy i)) ∧ S.1 1 2 = nI lk ∧ S.1 1 3 = nI nd
def HB (w wy : Nat → Nat) (lk nd : Nat) : Prop := (∀ i, w i ≤ 99) ∧ (∀ i, wy i ≤ 9) ∧ (1 ≤ lk ∧ lk ≤ 5) ∧ (1 ≤ nd ∧ nd ≤ 20)
def nxw (wy : Nat → Nat) (s : Nat) (t : List Nat) : Nat := match t with
  | [] => 0
  | s' :: _ => wy (s * 6 + s')
def atL (wy : Nat → Nat) (lk : Nat) : List Nat → Nat → Nat → Int32
  | [], _, _ => -1
  | s :: t, c, m => if c ≤ m ∧ m < c + lk then nI s else atL wy lk t (c + (lk + nxw wy s t)) m
def arO (wy : Nat → Nat) (lk : Nat) : List Nat → Nat → Nat → Option Nat
  | [], _, _ => none
  | s :: t, c, x => if s = x then some c else arO wy lk t (c + (lk + nxw wy s t)) x
def ctI (o : Option Nat) : Int32 := match o with
  | some c => if c < 60 then nI c else -1
  | none => -1
theorem nxw_le {w wy : Nat → Nat} {lk nd : Nat} (h : HB w wy lk nd) (s : Nat) (t : List Nat) : nxw wy s t ≤ 9 := by
  cases t with
  | nil => simp [nxw]
  | cons a t => exact h.2.1 _
theorem drop_cons {w : List Nat} {i : Nat} (h : i < w.length) : w.drop i = w[i] :: w.drop (i + 1) := List.drop_eq_getElem_cons h
set_option maxRecDepth 100000 in
theorem c_X3_worthOf {G : Gm} {S : AS} {i : Nat} {v : Int32} (hv : v = nI i) (hi : i < 6) : Rm G M_X3_worthOf [.ref (gB G + 1), .int v] S (some (.int (S.1 2 i))) S := by
  subst hv
  refine Rn_of hp_X3_worthOf [some (.ref (gB G + 1)), some (.int (nI i))] rfl (Nat.le_of_ble_eq_true rfl) (Nat.le_of_ble_eq_true rfl) ?_
  refine V_il1 d_X3_worthOf_0 ?_
  refine U_if_ltN d_X3_worthOf_1 (by omega) (fun q => absurd q (by omega)) (fun h1 => ?_)
  refine V_il1 d_X3_worthOf_4 ?_
  refine V_al0 d_X3_worthOf_5 ?_
  refine V_getR d_X3_worthOf_6 rfl rfl (by decide) rfl ?_
  refine V_alen d_X3_worthOf_9 rfl (by decide) ?_
  refine U_ic_geN d_X3_worthOf_10 (by omega) (by omega) (fun q => absurd q (by omega)) (fun h10 => ?_)
  refine V_al0 d_X3_worthOf_13 ?_
  refine V_getR d_X3_worthOf_14 rfl rfl (by decide) rfl ?_
  refine V_il1 d_X3_worthOf_17 ?_
  refine V_ialdN d_X3_worthOf_18 rfl (by decide) (by omega) ?_
  refine V_goto d_X3_worthOf_19 ?_
  exact V_iret d_X3_worthOf_23 rfl (by first | rfl | simp_all) rfl
set_option maxRecDepth 100000 in
theorem c_X3_changeWorth {G : Gm} {S : AS} {i : Nat} {v : Int32} (hi : i < 6) : Rm G M_X3_changeWorth [.ref (gB G + 1), .int (nI i), .int v] S (some (.int (S.1 2 i))) (sI S 2 i v) := by
  refine Rn_of hp_X3_changeWorth [some (.ref (gB G + 1)), some (.int (nI i)), some (.int v), none] rfl (Nat.le_of_ble_eq_true rfl) (Nat.le_of_ble_eq_true rfl) ?_
  refine V_al0 d_X3_changeWorth_0 ?_
  refine V_il1 d_X3_changeWorth_1 ?_
  refine U_cv1 d_X3_changeWorth_2 (c_X3_worthOf rfl hi) rfl rfl rfl ?_
  refine V_is3 d_X3_changeWorth_5 rfl ?_
  refine V_al0 d_X3_changeWorth_6 ?_
  refine V_getR d_X3_changeWorth_7 rfl rfl (by decide) rfl ?_
  refine V_il1 d_X3_changeWorth_10 ?_
  refine V_il2 d_X3_changeWorth_11 ?_
  refine U_cs3v d_X3_changeWorth_12 (c_X8_keep (j := i) rfl (by decide) rfl hi) rfl ?_
  refine V_il3 d_X3_changeWorth_15 ?_
  exact V_iret d_X3_changeWorth_16 rfl (by first | rfl | simp_all) rfl
set_option maxRecDepth 100000 in
theorem c_X3_wayOf {G : Gm} {S : AS} {a b : Nat} (ha : a < 6) (hb : b < 6) : Rm G M_X3_wayOf [.ref (gB G + 1), .int (nI a), .int (nI b)] S (some (.int (S.1 3 (a * 6 + b)))) S := by
  refine Rn_of hp_X3_wayOf [some (.ref (gB G + 1)), some (.int (nI a)), some (.int (nI b)), none, none] rfl (Nat.le_of_ble_eq_true rfl) (Nat.le_of_ble_eq_true rfl) ?_
  refine V_il1 d_X3_wayOf_0 ?_
  refine U_if_ltN d_X3_wayOf_1 (by omega) (fun q => absurd q (by omega)) (fun h1 => ?_)
  refine V_il1 d_X3_wayOf_4 ?_
  refine V_ki d_X3_wayOf_5 ?_
  refine U_ic_geN d_X3_wayOf_7 (by omega) (by omega) (fun q => absurd q (by omega)) (fun h7 => ?_)
  refine V_il2 d_X3_wayOf_10 ?_
  refine U_if_ltN d_X3_wayOf_11 (by omega) (fun q => absurd q (by omega)) (fun h11 => ?_)
  refine V_il2 d_X3_wayOf_14 ?_
  refine V_ki d_X3_wayOf_15 ?_
  refine U_ic_geN d_X3_wayOf_17 (by omega) (by omega) (fun q => absurd q (by omega)) (fun h17 => ?_)
  refine V_ki d_X3_wayOf_20 ?_
  refine V_goto d_X3_wayOf_21 ?_
  refine V_is3 d_X3_wayOf_25 rfl ?_
  refine V_il3 d_X3_wayOf_26 ?_
  refine U_if_eqN d_X3_wayOf_27 (by omega) (fun q => absurd q (by omega)) (fun h27 => ?_)
  refine V_il1 d_X3_wayOf_30 ?_
  refine V_ki d_X3_wayOf_31 ?_
  first | with_reducible refine V_imulN d_X3_wayOf_33 ?_ | refine V_imul d_X3_wayOf_33 ?_
  refine V_il2 d_X3_wayOf_34 ?_
  first | with_reducible refine V_iaddN d_X3_wayOf_35 ?_ | refine V_iadd d_X3_wayOf_35 ?_
  refine V_goto d_X3_wayOf_36 ?_
  refine V_is4 d_X3_wayOf_40 rfl ?_
  refine V_il4 d_X3_wayOf_42 ?_
  refine U_if_ltN d_X3_wayOf_44 (by omega) (fun q => absurd q (by omega)) (fun h44 => ?_)
  refine V_il4 d_X3_wayOf_47 ?_
  refine V_al0 d_X3_wayOf_49 ?_
  refine V_getR d_X3_wayOf_50 rfl rfl (by decide) rfl ?_
  refine V_alen d_X3_wayOf_53 rfl (by decide) ?_
  refine U_ic_geN d_X3_wayOf_54 (by omega) (by omega) (fun q => absurd q (by omega)) (fun h54 => ?_)
  refine V_al0 d_X3_wayOf_57 ?_
  refine V_getR d_X3_wayOf_58 rfl rfl (by decide) rfl ?_
  refine V_il4 d_X3_wayOf_61 ?_
  refine V_ialdN d_X3_wayOf_63 rfl (by decide) (by omega) ?_
  refine V_goto d_X3_wayOf_64 ?_
  exact V_iret d_X3_wayOf_68 rfl (by first | rfl | simp_all) rfl
set_option maxRecDepth 100000 in
theorem c_X3_wayOf_m1 {G : Gm} {S : AS} {a : Nat} (ha : a < 6) : Rm G M_X3_wayOf [.ref (gB G + 1), .int (nI a), .int (-1)] S (some (.int (nI 0))) S := by
  refine Rn_of hp_X3_wayOf [some (.ref (gB G + 1)), some (.int (nI a)), some (.int (-1)), none, none] rfl (Nat.le_of_ble_eq_true rfl) (Nat.le_of_ble_eq_true rfl) ?_
  refine V_il1 d_X3_wayOf_0 ?_
  refine U_if_ltN d_X3_wayOf_1 (by omega) (fun q => absurd q (by omega)) (fun h1 => ?_)
  refine V_il1 d_X3_wayOf_4 ?_
  refine V_ki d_X3_wayOf_5 ?_
  refine U_ic_geN d_X3_wayOf_7 (by omega) (by omega) (fun q => absurd q (by omega)) (fun h7 => ?_)
  refine V_il2 d_X3_wayOf_10 ?_
  refine V_if_lt d_X3_wayOf_11 (fun h11 => ?_) (fun q => absurd (by decide) q)
  refine V_ki d_X3_wayOf_24 ?_
  refine V_is3 d_X3_wayOf_25 rfl ?_
  refine V_il3 d_X3_wayOf_26 ?_
  refine U_if_eqN d_X3_wayOf_27 (by omega) (fun h27 => ?_) (fun q => absurd rfl q)
  refine V_ki d_X3_wayOf_39 ?_
  refine V_is4 d_X3_wayOf_40 rfl ?_
  refine V_il4 d_X3_wayOf_42 ?_
  refine V_if_lt d_X3_wayOf_44 (fun h44 => ?_) (fun q => absurd (by decide) q)
  refine V_ki d_X3_wayOf_67 ?_
  exact V_iret d_X3_wayOf_68 rfl (by first | rfl | simp_all) rfl
set_option maxRecDepth 100000 in
theorem c_X3_changeWay {G : Gm} {S : AS} {a b : Nat} {v : Int32} (ha : a < 6) (hb : b < 6) : Rm G M_X3_changeWay [.ref (gB G + 1), .int (nI a), .int (nI b), .int v] S (some (.int (S.1 3 (a * 6 + b)))) (sI (sI S 3 (a * 6 + b) v) 3 (b * 6 + a) v) := by
  refine Rn_of hp_X3_changeWay [some (.ref (gB G + 1)), some (.int (nI a)), some (.int (nI b)), some (.int v), none] rfl (Nat.le_of_ble_eq_true rfl) (Nat.le_of_ble_eq_true rfl) ?_
  refine V_al0 d_X3_changeWay_0 ?_
  refine V_il1 d_X3_changeWay_1 ?_
  refine V_il2 d_X3_changeWay_2 ?_
  refine U_cv2 d_X3_changeWay_3 (c_X3_wayOf ha hb) rfl rfl rfl ?_
  refine V_is4 d_X3_changeWay_6 rfl ?_
  refine V_al0 d_X3_changeWay_8 ?_
  refine V_getR d_X3_changeWay_9 rfl rfl (by decide) rfl ?_
  refine V_il1 d_X3_changeWay_12 ?_
  refine V_ki d_X3_changeWay_13 ?_
  first | with_reducible refine V_imulN d_X3_changeWay_15 ?_ | refine V_imul d_X3_changeWay_15 ?_
  refine V_il2 d_X3_changeWay_16 ?_
  first | with_reducible refine V_iaddN d_X3_changeWay_17 ?_ | refine V_iadd d_X3_changeWay_17 ?_
  refine V_il3 d_X3_changeWay_18 ?_
  refine U_cs3v d_X3_changeWay_19 (c_X8_keep (j := a * 6 + b) rfl (by decide) rfl (by omega)) rfl ?_
  refine V_al0 d_X3_changeWay_22 ?_
  refine V_getR d_X3_changeWay_23 rfl rfl (by decide) rfl ?_
  refine V_il2 d_X3_changeWay_26 ?_
  refine V_ki d_X3_changeWay_27 ?_
  first | with_reducible refine V_imulN d_X3_changeWay_29 ?_ | refine V_imul d_X3_changeWay_29 ?_
  refine V_il1 d_X3_changeWay_30 ?_
  first | with_reducible refine V_iaddN d_X3_changeWay_31 ?_ | refine V_iadd d_X3_changeWay_31 ?_
  refine V_il3 d_X3_changeWay_32 ?_
  refine U_cs3v d_X3_changeWay_33 (c_X8_keep (j := b * 6 + a) rfl (by decide) rfl (by omega)) rfl ?_
  refine V_il4 d_X3_changeWay_36 ?_
  exact V_iret d_X3_changeWay_38 rfl (by first | rfl | simp_all) rfl
set_option maxRecDepth 100000 in
theorem c_X3_changeLook {G : Gm} {S : AS} {v : Int32} : Rm G M_X3_changeLook [.ref (gB G + 1), .int v] S (some (.int (S.1 1 2))) (sI S 1 2 v) := by
  refine Rn_of hp_X3_changeLook [some (.ref (gB G + 1)), some (.int v), none] rfl (Nat.le_of_ble_eq_true rfl) (Nat.le_of_ble_eq_true rfl) ?_
  refine V_al0 d_X3_changeLook_0 ?_
  refine V_getI d_X3_changeLook_1 rfl rfl (by decide) ?_
  refine V_is2 d_X3_changeLook_4 rfl ?_
  refine V_al0 d_X3_changeLook_5 ?_
  refine V_il1 d_X3_changeLook_6 ?_
  refine V_putI d_X3_changeLook_7 rfl rfl (by decide) rfl ?_
  refine V_il2 d_X3_changeLook_10 ?_
  exact V_iret d_X3_changeLook_11 rfl (by first | rfl | simp_all) rfl
set_option maxRecDepth 100000 in
theorem c_X3_changeNeed {G : Gm} {S : AS} {v : Int32} : Rm G M_X3_changeNeed [.ref (gB G + 1), .int v] S (some (.int (S.1 1 3))) (sI S 1 3 v) := by
  refine Rn_of hp_X3_changeNeed [some (.ref (gB G + 1)), some (.int v), none] rfl (Nat.le_of_ble_eq_true rfl) (Nat.le_of_ble_eq_true rfl) ?_
  refine V_al0 d_X3_changeNeed_0 ?_
  refine V_getI d_X3_changeNeed_1 rfl rfl (by decide) ?_
  refine V_is2 d_X3_changeNeed_4 rfl ?_
  refine V_al0 d_X3_changeNeed_5 ?_
  refine V_il1 d_X3_changeNeed_6 ?_
  refine V_putI d_X3_changeNeed_7 rfl rfl (by decide) rfl ?_
  refine V_il2 d_X3_changeNeed_10 ?_
  exact V_iret d_X3_changeNeed_11 rfl (by first | rfl | simp_all) rfl
/-- the way on from the i-th shed of a night -/
theorem c_way {G : Gm} {S : AS} {w0 wy : Nat → Nat} {lk nd : Nat} (hH : HVc S w0 wy lk nd) {w : List Nat} (hw : WFc w) {i : Nat} (hi : i < w.length) : Rm G M_X3_wayOf [.ref (gB G + 1), .int (sh w i), .int (sh w (i + 1))] S (some (.int (nI (nxw wy w[i] (w.drop (i + 1)))))) S := by
  have h1 : w[i] < 6 := hw.2 _ (List.getElem_mem hi)
  rw [sh_in hi]
  rcases Nat.lt_or_ge (i + 1) w.length with g | g
  · have h2 : w[i + 1] < 6 := hw.2 _ (List.getElem_mem g)
    rw [sh_in g, drop_cons g]
    have h := c_X3_wayOf (G := G) (S := S) h1 h2
    rw [hH.2.1 _ (by omega)] at h
    exact h
  · rw [sh_out g, List.drop_eq_nil_of_le g]
    exact c_X3_wayOf_m1 h1
set_option maxRecDepth 100000 in
theorem c_X7_shedIn {G : Gm} {S : AS} {w0 wy : Nat → Nat} {lk nd : Nat} {ft : Int32} {N : List (List Nat)} {n m : Nat} (hH : HVc S w0 wy lk nd) (hB : HB w0 wy lk nd) (hv : CNv S ft N) (hN : WFN N) (hn : n < N.length) (hm : m < 1000) : Rm G M_X7_shedIn [.ref (gB G + 8), .int (nI n), .int (nI m)] S (some (.int (atL wy lk (ni N n) 0 m))) S := by
  have h8 := hN.1
  have h6 := ni_le hN hn
  have hw := (ni_wf hN hn).2
  obtain ⟨hlk1, hlk2⟩ := hB.2.2.1
  have loop : ∀ d i c, i + d = (ni N n).length → c ≤ 14 * i → U G M_X7_shedIn (Ze G (some (.int (atL wy lk ((ni N n).drop i) c m))) S) 5 [some (.ref (gB G + 8)), some (.int (nI n)), some (.int (nI m)), some (.int (nI c)), some (.int (nI i))] [] S := by
    intro d
    induction d with
    | zero =>
      intro i c hi hc
      have e : (ni N n).drop i = [] := List.drop_eq_nil_of_le (by omega)
      rw [e]
      refine V_il4 d_X7_shedIn_5 ?_
      refine V_al0 d_X7_shedIn_7 ?_
      refine V_getR d_X7_shedIn_8 rfl rfl (by decide) rfl ?_
      refine V_il1 d_X7_shedIn_11 ?_
      refine U_cv1 d_X7_shedIn_12 (c_X4_lengthOf hv hN hn) rfl rfl rfl ?_
      refine U_ic_geN d_X7_shedIn_15 (by omega) (by omega) (fun h15 => ?_) (fun q => absurd q (by omega))
      refine V_ki d_X7_shedIn_94 ?_
      exact V_iret d_X7_shedIn_95 rfl (by first | rfl | simp_all) rfl
    | succ d ih =>
      intro i c hi hc
      have hl : i < (ni N n).length := by omega
      have e := drop_cons hl
      have hx := nxw_le hB (ni N n)[i] ((ni N n).drop (i + 1))
      have e2 : atL wy lk ((ni N n).drop i) c m = if c ≤ m ∧ m < c + lk then nI (ni N n)[i] else atL wy lk ((ni N n).drop (i + 1)) (c + (lk + nxw wy (ni N n)[i] ((ni N n).drop (i + 1)))) m := by rw [e]; rfl
      rw [e2]
      refine V_il4 d_X7_shedIn_5 ?_
      refine V_al0 d_X7_shedIn_7 ?_
      refine V_getR d_X7_shedIn_8 rfl rfl (by decide) rfl ?_
      refine V_il1 d_X7_shedIn_11 ?_
      refine U_cv1 d_X7_shedIn_12 (c_X4_lengthOf hv hN hn) rfl rfl rfl ?_
      refine U_ic_geN d_X7_shedIn_15 (by omega) (by omega) (fun q => absurd q (by omega)) (fun h15 => ?_)
      refine V_il2 d_X7_shedIn_18 ?_
      refine V_il3 d_X7_shedIn_19 ?_
      refine V_il3 d_X7_shedIn_20 ?_
      refine V_al0 d_X7_shedIn_21 ?_
      refine V_getR d_X7_shedIn_22 rfl rfl (by decide) rfl ?_
      refine V_getIe d_X7_shedIn_25 rfl rfl (by decide) (hH.2.2.1) ?_
      first | with_reducible refine V_iaddN d_X7_shedIn_28 ?_ | refine V_iadd d_X7_shedIn_28 ?_
      refine V_ki d_X7_shedIn_29 ?_
      refine V_isubN d_X7_shedIn_30 (by omega) ?_
      refine U_cs3 d_X7_shedIn_31 (c_X8_within) rfl ?_
      rw [inR_N (by omega) (by omega) (by omega)]
      refine V_eqB d_X7_shedIn_34 (fun h34 => ?_) (fun h34 => ?_)
      · have hc1 : ¬ (c ≤ m ∧ m < c + lk) := by intro z; simp at h34; omega
        refine V_il3 d_X7_shedIn_48 ?_
        rw [if_neg hc1]
        refine V_al0 d_X7_shedIn_49 ?_
        refine V_getR d_X7_shedIn_50 rfl rfl (by decide) rfl ?_
        refine V_getIe d_X7_shedIn_53 rfl rfl (by decide) (hH.2.2.1) ?_
        refine V_al0 d_X7_shedIn_56 ?_
        refine V_getR d_X7_shedIn_57 rfl rfl (by decide) rfl ?_
        refine V_al0 d_X7_shedIn_60 ?_
        refine V_getR d_X7_shedIn_61 rfl rfl (by decide) rfl ?_
        refine V_il1 d_X7_shedIn_64 ?_
        refine V_il4 d_X7_shedIn_65 ?_
        refine U_cv2 d_X7_shedIn_67 (c_X4_shedOf hv hN hn (by omega)) rfl rfl rfl ?_
        refine V_al0 d_X7_shedIn_70 ?_
        refine V_getR d_X7_shedIn_71 rfl rfl (by decide) rfl ?_
        refine V_il1 d_X7_shedIn_74 ?_
        refine V_il4 d_X7_shedIn_75 ?_
        refine V_ki d_X7_shedIn_77 ?_
        first | with_reducible refine V_iaddN d_X7_shedIn_78 ?_ | refine V_iadd d_X7_shedIn_78 ?_
        refine U_cv2 d_X7_shedIn_79 (c_X4_shedOf hv hN hn (by omega)) rfl rfl rfl ?_
        refine U_cv2 d_X7_shedIn_82 (c_way hH hw hl) rfl rfl rfl ?_
        first | with_reducible refine V_iaddN d_X7_shedIn_85 ?_ | refine V_iadd d_X7_shedIn_85 ?_
        first | with_reducible refine V_iaddN d_X7_shedIn_86 ?_ | refine V_iadd d_X7_shedIn_86 ?_
        refine V_is3 d_X7_shedIn_87 rfl ?_
        refine V_icN4 d_X7_shedIn_88 rfl ?_
        refine V_goto d_X7_shedIn_91 ?_
        exact ih (i + 1) _ (by omega) (by omega)
      · have hc1 : c ≤ m ∧ m < c + lk := by simp at h34; omega
        refine V_al0 d_X7_shedIn_37 ?_
        rw [if_pos hc1]
        refine V_getR d_X7_shedIn_38 rfl rfl (by decide) rfl ?_
        refine V_il1 d_X7_shedIn_41 ?_
        refine V_il4 d_X7_shedIn_42 ?_
        refine U_cv2 d_X7_shedIn_44 (c_X4_shedOf hv hN hn (by omega)) rfl rfl rfl ?_
        exact V_iret d_X7_shedIn_47 rfl (by rw [sh_in hl]) rfl
  refine Rn_of hp_X7_shedIn [some (.ref (gB G + 8)), some (.int (nI n)), some (.int (nI m)), none, none] rfl (Nat.le_of_ble_eq_true rfl) (Nat.le_of_ble_eq_true rfl) ?_
  refine V_ki d_X7_shedIn_0 ?_
  refine V_is3 d_X7_shedIn_1 rfl ?_
  refine V_ki d_X7_shedIn_2 ?_
  refine V_is4 d_X7_shedIn_3 rfl ?_
  exact loop _ 0 0 (Nat.zero_add _) (by omega)
set_option maxRecDepth 100000 in
theorem c_X7_comesTo {G : Gm} {S : AS} {w0 wy : Nat → Nat} {lk nd : Nat} {ft : Int32} {N : List (List Nat)} {n x : Nat} (hH : HVc S w0 wy lk nd) (hB : HB w0 wy lk nd) (hv : CNv S ft N) (hN : WFN N) (hn : n < N.length) (hx : x < 6) : Rm G M_X7_comesTo [.ref (gB G + 8), .int (nI n), .int (nI x)] S (some (.int (ctI (arO wy lk (ni N n) 0 x)))) S := by
  have h8 := hN.1
  have h6 := ni_le hN hn
  have hw := (ni_wf hN hn).2
  obtain ⟨hlk1, hlk2⟩ := hB.2.2.1
  have loop : ∀ d i c, i + d = (ni N n).length → c ≤ 14 * i → U G M_X7_comesTo (Ze G (some (.int (ctI (arO wy lk ((ni N n).drop i) c x)))) S) 5 [some (.ref (gB G + 8)), some (.int (nI n)), some (.int (nI x)), some (.int (nI c)), some (.int (nI i))] [] S := by
    intro d
    induction d with
    | zero =>
      intro i c hi hc
      have e : (ni N n).drop i = [] := List.drop_eq_nil_of_le (by omega)
      rw [e]
      refine V_il4 d_X7_comesTo_5 ?_
      refine V_al0 d_X7_comesTo_7 ?_
      refine V_getR d_X7_comesTo_8 rfl rfl (by decide) rfl ?_
      refine V_il1 d_X7_comesTo_11 ?_
      refine U_cv1 d_X7_comesTo_12 (c_X4_lengthOf hv hN hn) rfl rfl rfl ?_
      refine U_ic_geN d_X7_comesTo_15 (by omega) (by omega) (fun h15 => ?_) (fun q => absurd q (by omega))
      refine V_ki d_X7_comesTo_90 ?_
      exact V_iret d_X7_comesTo_91 rfl (by first | rfl | simp_all) rfl
    | succ d ih =>
      intro i c hi hc
      have hl : i < (ni N n).length := by omega
      have hs : (ni N n)[i] < 6 := hw.2 _ (List.getElem_mem hl)
      have e := drop_cons hl
      have hxw := nxw_le hB (ni N n)[i] ((ni N n).drop (i + 1))
      have e2 : arO wy lk ((ni N n).drop i) c x = if (ni N n)[i] = x then some c else arO wy lk ((ni N n).drop (i + 1)) (c + (lk + nxw wy (ni N n)[i] ((ni N n).drop (i + 1)))) x := by rw [e]; rfl
      rw [e2]
      refine V_il4 d_X7_comesTo_5 ?_
      refine V_al0 d_X7_comesTo_7 ?_
      refine V_getR d_X7_comesTo_8 rfl rfl (by decide) rfl ?_
      refine V_il1 d_X7_comesTo_11 ?_
      refine U_cv1 d_X7_comesTo_12 (c_X4_lengthOf hv hN hn) rfl rfl rfl ?_
      refine U_ic_geN d_X7_comesTo_15 (by omega) (by omega) (fun q => absurd q (by omega)) (fun h15 => ?_)
      refine V_al0 d_X7_comesTo_18 ?_
      refine V_getR d_X7_comesTo_19 rfl rfl (by decide) rfl ?_
      refine V_il1 d_X7_comesTo_22 ?_
      refine V_il4 d_X7_comesTo_23 ?_
      refine U_cv2 d_X7_comesTo_25 (c_X4_shedOf hv hN hn (by omega)) rfl rfl rfl ?_
      refine V_topi (sh_in hl) ?_
      refine V_il2 d_X7_comesTo_28 ?_
      refine U_ic_neN d_X7_comesTo_29 (by omega) (by omega) (fun h29 => ?_) (fun h29 => ?_)
      · rw [if_neg h29]
        refine V_il3 d_X7_comesTo_44 ?_
        refine V_al0 d_X7_comesTo_45 ?_
        refine V_getR d_X7_comesTo_46 rfl rfl (by decide) rfl ?_
        refine V_getIe d_X7_comesTo_49 rfl rfl (by decide) (hH.2.2.1) ?_
        refine V_al0 d_X7_comesTo_52 ?_
        refine V_getR d_X7_comesTo_53 rfl rfl (by decide) rfl ?_
        refine V_al0 d_X7_comesTo_56 ?_
        refine V_getR d_X7_comesTo_57 rfl rfl (by decide) rfl ?_
        refine V_il1 d_X7_comesTo_60 ?_
        refine V_il4 d_X7_comesTo_61 ?_
        refine U_cv2 d_X7_comesTo_63 (c_X4_shedOf hv hN hn (by omega)) rfl rfl rfl ?_
        refine V_al0 d_X7_comesTo_66 ?_
        refine V_getR d_X7_comesTo_67 rfl rfl (by decide) rfl ?_
        refine V_il1 d_X7_comesTo_70 ?_
        refine V_il4 d_X7_comesTo_71 ?_
        refine V_ki d_X7_comesTo_73 ?_
        first | with_reducible refine V_iaddN d_X7_comesTo_74 ?_ | refine V_iadd d_X7_comesTo_74 ?_
        refine U_cv2 d_X7_comesTo_75 (c_X4_shedOf hv hN hn (by omega)) rfl rfl rfl ?_
        refine U_cv2 d_X7_comesTo_78 (c_way hH hw hl) rfl rfl rfl ?_
        first | with_reducible refine V_iaddN d_X7_comesTo_81 ?_ | refine V_iadd d_X7_comesTo_81 ?_
        first | with_reducible refine V_iaddN d_X7_comesTo_82 ?_ | refine V_iadd d_X7_comesTo_82 ?_
        refine V_is3 d_X7_comesTo_83 rfl ?_
        refine V_icN4 d_X7_comesTo_84 rfl ?_
        refine V_goto d_X7_comesTo_87 ?_
        exact ih (i + 1) _ (by omega) (by omega)
      · rw [if_pos h29]
        refine V_il3 d_X7_comesTo_32 ?_
        refine V_ki d_X7_comesTo_33 ?_
        refine U_ic_geN d_X7_comesTo_35 (by omega) (by omega) (fun h35 => ?_) (fun h35 => ?_)
        · refine V_ki d_X7_comesTo_42 ?_
          exact V_iret d_X7_comesTo_43 rfl (by simp [ctI]; omega) rfl
        · refine V_il3 d_X7_comesTo_38 ?_
          refine V_goto d_X7_comesTo_39 ?_
          exact V_iret d_X7_comesTo_43 rfl (by simp [ctI]; omega) rfl
  refine Rn_of hp_X7_comesTo [some (.ref (gB G + 8)), some (.int (nI n)), some (.int (nI x)), none, none] rfl (Nat.le_of_ble_eq_true rfl) (Nat.le_of_ble_eq_true rfl) ?_
  refine V_ki d_X7_comesTo_0 ?_
  refine V_is3 d_X7_comesTo_1 rfl ?_
  refine V_ki d_X7_comesTo_2 ?_
  refine V_is4 d_X7_comesTo_3 rfl ?_
  exact loop _ 0 0 (Nat.zero_add _) (by omega)
def alF (o : Option Nat) (lk : Nat) : Nat := match o with
  | some c => if c < 60 then max c (60 - c - lk) else 60
  | none => 60
def alG (o : Option Nat) (lk : Nat) : Nat := match o with
  | some c => if c < 60 then (if 60 - c - lk ≤ c then 0 else c + lk) else 0
  | none => 0
theorem ctI_cases (o : Option Nat) : (∃ c, o = some c ∧ c < 60 ∧ ctI o = nI c) ∨ (ctI o = -1 ∧ ∀ c, o = some c → 60 ≤ c) := by
  cases o with
  | none => exact Or.inr ⟨rfl, fun c h => by cases h⟩
  | some c =>
    by_cases h : c < 60
    · exact Or.inl ⟨c, rfl, h, by simp [ctI, h]⟩
    · exact Or.inr ⟨by simp [ctI, h], fun c' e => by cases e; omega⟩
theorem sub_lt {a b c : Nat} (ha : a < 1000) (hb : b < 1000) (hc : c < 1000) : nI c < nI a - nI b ↔ c + b < a := by
  rcases Nat.lt_or_ge a b with g | g
  · constructor
    · intro h
      have h1 := Int32.lt_trans h (pk_sneg (by omega) g)
      exact absurd h1 (nI_pos (by omega))
    · intro h; omega
  · rw [pk_sub g, nI_ltI (by omega) (by omega)]
    omega
set_option maxRecDepth 100000 in
theorem c_X7_aloneFor {G : Gm} {S : AS} {w0 wy : Nat → Nat} {lk nd : Nat} {ft : Int32} {N : List (List Nat)} {n x : Nat} (hH : HVc S w0 wy lk nd) (hB : HB w0 wy lk nd) (hv : CNv S ft N) (hN : WFN N) (hn : n < N.length) (hx : x < 6) : Rm G M_X7_aloneFor [.ref (gB G + 8), .int (nI n), .int (nI x)] S (some (.int (nI (alF (arO wy lk (ni N n) 0 x) lk)))) S := by
  have hc := c_X7_comesTo (G := G) hH hB hv hN hn hx
  obtain ⟨hlk1, hlk2⟩ := hB.2.2.1
  generalize arO wy lk (ni N n) 0 x = o at hc ⊢
  refine Rn_of hp_X7_aloneFor [some (.ref (gB G + 8)), some (.int (nI n)), some (.int (nI x)), none] rfl (Nat.le_of_ble_eq_true rfl) (Nat.le_of_ble_eq_true rfl) ?_
  rcases ctI_cases o with ⟨c, e1, e2, e3⟩ | ⟨e1, e2⟩
  · rw [e3] at hc
    refine V_al0 d_X7_aloneFor_0 ?_
    refine V_il1 d_X7_aloneFor_1 ?_
    refine V_il2 d_X7_aloneFor_2 ?_
    refine U_cv2 d_X7_aloneFor_3 (hc) rfl rfl rfl ?_
    refine V_is3 d_X7_aloneFor_6 rfl ?_
    refine V_il3 d_X7_aloneFor_7 ?_
    refine V_ki d_X7_aloneFor_8 ?_
    refine V_ic_ne d_X7_aloneFor_9 (fun h9 => ?_) (fun q => (nI_m1 (by omega) q).elim)
    refine V_il3 d_X7_aloneFor_17 ?_
    refine V_ki d_X7_aloneFor_18 ?_
    refine V_il3 d_X7_aloneFor_20 ?_
    refine V_isubN d_X7_aloneFor_21 (by omega) ?_
    refine V_al0 d_X7_aloneFor_22 ?_
    refine V_getR d_X7_aloneFor_23 rfl rfl (by decide) rfl ?_
    refine V_getIe d_X7_aloneFor_26 rfl rfl (by decide) (hH.2.2.1) ?_
    refine V_isub d_X7_aloneFor_29 ?_
    refine V_max d_X7_aloneFor_30 (by decide) (Nat.le_of_ble_eq_true rfl) (by decide) ?_
    refine V_topi (y := nI (alF o lk)) ?_ ?_
    · rw [e1]
      simp only [sub_lt (show 60 - c < 1000 by omega) (show lk < 1000 by omega) (show c < 1000 by omega), alF, if_pos e2]
      by_cases h : c + lk < 60 - c
      · rw [if_pos h, pk_sub (by omega), Nat.max_eq_right (by omega)]
      · rw [if_neg h, Nat.max_eq_left (by omega)]
    exact V_iret d_X7_aloneFor_33 rfl (by first | rfl | simp_all) rfl
  · rw [e1] at hc
    refine V_al0 d_X7_aloneFor_0 ?_
    refine V_il1 d_X7_aloneFor_1 ?_
    refine V_il2 d_X7_aloneFor_2 ?_
    refine U_cv2 d_X7_aloneFor_3 (hc) rfl rfl rfl ?_
    refine V_is3 d_X7_aloneFor_6 rfl ?_
    refine V_il3 d_X7_aloneFor_7 ?_
    refine V_ki d_X7_aloneFor_8 ?_
    refine V_ic_ne d_X7_aloneFor_9 (fun q => absurd rfl q) (fun h9 => ?_)
    refine V_ki d_X7_aloneFor_12 ?_
    refine V_goto d_X7_aloneFor_14 ?_
    exact V_iret d_X7_aloneFor_33 rfl (by cases o with | none => rfl | some c => simp [alF, Nat.not_lt.mpr (e2 c rfl)]) rfl
set_option maxRecDepth 100000 in
theorem c_X7_aloneFrom {G : Gm} {S : AS} {w0 wy : Nat → Nat} {lk nd : Nat} {ft : Int32} {N : List (List Nat)} {n x : Nat} (hH : HVc S w0 wy lk nd) (hB : HB w0 wy lk nd) (hv : CNv S ft N) (hN : WFN N) (hn : n < N.length) (hx : x < 6) : Rm G M_X7_aloneFrom [.ref (gB G + 8), .int (nI n), .int (nI x)] S (some (.int (nI (alG (arO wy lk (ni N n) 0 x) lk)))) S := by
  have hc := c_X7_comesTo (G := G) hH hB hv hN hn hx
  obtain ⟨hlk1, hlk2⟩ := hB.2.2.1
  generalize arO wy lk (ni N n) 0 x = o at hc ⊢
  refine Rn_of hp_X7_aloneFrom [some (.ref (gB G + 8)), some (.int (nI n)), some (.int (nI x)), none] rfl (Nat.le_of_ble_eq_true rfl) (Nat.le_of_ble_eq_true rfl) ?_
  rcases ctI_cases o with ⟨c, e1, e2, e3⟩ | ⟨e1, e2⟩
  · rw [e3] at hc
    refine V_al0 d_X7_aloneFrom_0 ?_
    refine V_il1 d_X7_aloneFrom_1 ?_
    refine V_il2 d_X7_aloneFrom_2 ?_
    refine U_cv2 d_X7_aloneFrom_3 (hc) rfl rfl rfl ?_
    refine V_is3 d_X7_aloneFrom_6 rfl ?_
    refine V_il3 d_X7_aloneFrom_7 ?_
    refine V_ki d_X7_aloneFrom_8 ?_
    refine V_ic_eq d_X7_aloneFrom_9 (fun q => (nI_m1 (by omega) q).elim) (fun h9 => ?_)
    refine V_il3 d_X7_aloneFrom_12 ?_
    refine V_ki d_X7_aloneFrom_13 ?_
    refine V_il3 d_X7_aloneFrom_15 ?_
    refine V_isubN d_X7_aloneFrom_16 (by omega) ?_
    refine V_al0 d_X7_aloneFrom_17 ?_
    refine V_getR d_X7_aloneFrom_18 rfl rfl (by decide) rfl ?_
    refine V_getIe d_X7_aloneFrom_21 rfl rfl (by decide) (hH.2.2.1) ?_
    refine V_isub d_X7_aloneFrom_24 ?_
    refine V_ic_lt d_X7_aloneFrom_25 (fun h25 => ?_) (fun h25 => ?_)
    · rw [sub_lt (show 60 - c < 1000 by omega) (show lk < 1000 by omega) (show c < 1000 by omega)] at h25
      refine V_il3 d_X7_aloneFrom_32 ?_
      refine V_al0 d_X7_aloneFrom_33 ?_
      refine V_getR d_X7_aloneFrom_34 rfl rfl (by decide) rfl ?_
      refine V_getIe d_X7_aloneFrom_37 rfl rfl (by decide) (hH.2.2.1) ?_
      first | with_reducible refine V_iaddN d_X7_aloneFrom_40 ?_ | refine V_iadd d_X7_aloneFrom_40 ?_
      exact V_iret d_X7_aloneFrom_41 rfl (by rw [e1]; simp only [alG, if_pos e2]; first | rw [if_pos (by omega)] | rw [if_neg (by omega)]) rfl
    · rw [sub_lt (show 60 - c < 1000 by omega) (show lk < 1000 by omega) (show c < 1000 by omega)] at h25
      refine V_ki d_X7_aloneFrom_28 ?_
      refine V_goto d_X7_aloneFrom_29 ?_
      exact V_iret d_X7_aloneFrom_41 rfl (by rw [e1]; simp only [alG, if_pos e2]; first | rw [if_pos (by omega)] | rw [if_neg (by omega)]) rfl
  · rw [e1] at hc
    refine V_al0 d_X7_aloneFrom_0 ?_
    refine V_il1 d_X7_aloneFrom_1 ?_
    refine V_il2 d_X7_aloneFrom_2 ?_
    refine U_cv2 d_X7_aloneFrom_3 (hc) rfl rfl rfl ?_
    refine V_is3 d_X7_aloneFrom_6 rfl ?_
    refine V_il3 d_X7_aloneFrom_7 ?_
    refine V_ki d_X7_aloneFrom_8 ?_
    refine V_ic_eq d_X7_aloneFrom_9 (fun h9 => ?_) (fun q => absurd rfl q)
    refine V_ki d_X7_aloneFrom_28 ?_
    refine V_goto d_X7_aloneFrom_29 ?_
    exact V_iret d_X7_aloneFrom_41 rfl (by cases o with | none => rfl | some c => simp [alG, Nat.not_lt.mpr (e2 c rfl)]) rfl
