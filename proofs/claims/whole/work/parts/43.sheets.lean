theorem tolB_in8 {v : Int32} {t : Nat} (ht : t ≤ 48) : inR v (nI 0) (nI t - nI 1) = tolB v t := by
  unfold inR tolB
  have e0 : (!decide (v < 0)) = decide (nI 0 ≤ v) := by
    rw [Bool.eq_iff_iff]
    simp only [Bool.not_eq_true', decide_eq_false_iff_not, decide_eq_true_eq]
    exact Int32.not_lt
  rw [e0]
  by_cases h0 : nI 0 ≤ v
  · rw [decide_eq_true h0, Bool.true_and, Bool.true_and, Bool.eq_iff_iff]
    simp only [decide_eq_true_eq]
    obtain ⟨j, hj, rfl⟩ := nI_of (fun q => absurd q (Int32.not_lt.mpr h0))
    rcases Nat.eq_zero_or_pos t with g | g
    · subst g
      constructor
      · intro q
        have h1 := Int32.le_iff_toInt_le.mp q
        rw [nI_toInt hj] at h1
        have h2 : (nI 0 - nI 1).toInt = -1 := by decide
        omega
      · intro q
        exact absurd q (nI_pos hj)
    · rw [pk_sub g, nI_leI hj (by omega), nI_ltI hj (by omega)]
      omega
  · rw [decide_eq_false h0, Bool.false_and, Bool.false_and]
/-! calls that change: sheets -/
def SH1 (S : AS) (s : Nat) : Prop := (S.1 18 s = -1 ∧ S.1 30 s = nI 0) ∨ ∃ f z, f ≤ 2 ∧ z ≤ 48 ∧ S.1 18 s = nI f ∧ S.1 31 s = nI f ∧ S.1 30 s = nI 1 ∧ S.1 19 s = nI z ∧ S.1 32 s = nI z ∧ ∀ i, i < z → S.1 33 (48 * s + i) = S.1 20 (s * 48 + i) ∧ nrI f (S.1 20 (s * 48 + i)) = S.1 20 (s * 48 + i)
theorem SHv_upd {S S2 : AS} {s : Nat} (h : SHv S) (ho : ∀ s', s' < 4 → s' ≠ s → S2.1 18 s' = S.1 18 s' ∧ S2.1 19 s' = S.1 19 s' ∧ S2.1 30 s' = S.1 30 s' ∧ S2.1 31 s' = S.1 31 s' ∧ S2.1 32 s' = S.1 32 s' ∧ ∀ i, i < 48 → S2.1 20 (s' * 48 + i) = S.1 20 (s' * 48 + i) ∧ S2.1 33 (48 * s' + i) = S.1 33 (48 * s' + i)) (h1 : SH1 S2 s) : SHv S2 := by
  intro s' hs'
  by_cases e : s' = s
  · subst e; exact h1
  · obtain ⟨o1, o2, o3, o4, o5, o6⟩ := ho s' hs' e
    rw [o1, o2, o3, o4, o5]
    rcases h s' hs' with g | ⟨f, z, g1, g2, g3, g4, g5, g6, g7, g8⟩
    · exact Or.inl g
    · refine Or.inr ⟨f, z, g1, g2, g3, g4, g5, g6, g7, fun i hi => ?_⟩
      obtain ⟨p1, p2⟩ := o6 i (by omega)
      rw [p1, p2]
      exact g8 i hi
def PE (a b : Nat) : Bool := a == 18 || a == 19 || a == 20 || a == 21 || a == 30 || a == 31 || a == 32 || a == 33 || a == 34 || (a == 17 && b == 4) || (a == 22 && b == 17)
theorem ST_sh {S S2 : AS} {b : Nat → Nat} {sz : Nat} {ft : Int32} {N : List (List Nat)} {w wy : Nat → Nat} {lk nd : Nat} (h : ST S b sz ft N w wy lk nd) (hA : Ag PE S S2) (hs : SHv S2) (hf : S2.1 17 4 = S2.1 22 17) : ST S2 b sz ft N w wy lk nd := by
  obtain ⟨⟨hsz, hbs⟩, hcn, hmt, hhc, hhm, -, -⟩ := h
  exact ⟨⟨(hA.2 4 3 rfl).trans hsz, fun i hi => (hA.2 5 i rfl).trans (hbs i hi)⟩, hcn.ag hA (fun _ => rfl) (fun _ => rfl) (fun _ => rfl), hmt.ag hA rfl (fun _ => rfl), hhc.ag hA (fun _ => rfl) (fun _ => rfl) (fun _ => rfl), hhm.ag hA (fun _ => rfl) (fun _ => rfl) rfl rfl, hs, hf⟩
theorem ST_fd {S : AS} {v : Int32} {b : Nat → Nat} {sz : Nat} {ft : Int32} {N : List (List Nat)} {w wy : Nat → Nat} {lk nd : Nat} (h : ST S b sz ft N w wy lk nd) : ST (sI (sI S 17 4 v) 22 17 v) b sz ft N w wy lk nd := by
  have hs : SHv S := h.2.2.2.2.2.1
  exact ST_sh h ((Ag.rf.sI rfl).sI rfl) hs rfl
set_option maxRecDepth 100000 in
theorem c_X9_meets {G : Gm} {S : AS} {v : Int32} : Rm G M_X9_meets [.ref (gB G + 22), .int v] S (some (.int ((-10 : Int32) - v))) (sI S 22 17 v) := by
  refine Rn_of hp_X9_meets [some (.ref (gB G + 22)), some (.int v)] rfl (Nat.le_of_ble_eq_true rfl) (Nat.le_of_ble_eq_true rfl) ?_
  refine V_al0 d_X9_meets_0 ?_
  refine V_il1 d_X9_meets_1 ?_
  refine V_putI d_X9_meets_2 rfl rfl (by decide) rfl ?_
  refine V_ki d_X9_meets_5 ?_
  refine V_il1 d_X9_meets_7 ?_
  refine V_isub d_X9_meets_8 ?_
  exact V_iret d_X9_meets_9 rfl (by first | rfl | simp_all) rfl
set_option maxRecDepth 100000 in
theorem c_X9_lacks_lost {G : Gm} {S : AS} {s : Nat} {g i : Int32} (hs : s < 4) (hT : S.1 30 s = nI 0) : Rm G M_X9_lacks [.ref (gB G + 22), .int (nI s), .int g, .int i] S (some (.int (nI 1))) S := by
  refine Rn_of hp_X9_lacks [some (.ref (gB G + 22)), some (.int (nI s)), some (.int g), some (.int i)] rfl (Nat.le_of_ble_eq_true rfl) (Nat.le_of_ble_eq_true rfl) ?_
  refine V_al0 d_X9_lacks_0 ?_
  refine V_getR d_X9_lacks_1 rfl rfl (by decide) rfl ?_
  refine V_il1 d_X9_lacks_4 ?_
  refine V_zald d_X9_lacks_5 rfl (by decide) rfl (by omega) ?_
  refine V_topi hT ?_
  refine V_if_ne d_X9_lacks_6 (fun q => absurd rfl q) (fun h6 => ?_)
  refine V_ki d_X9_lacks_9 ?_
  refine V_goto d_X9_lacks_10 ?_
  exact V_iret d_X9_lacks_48 rfl (by first | rfl | simp_all) rfl
set_option maxRecDepth 100000 in
theorem c_X9_lacks {G : Gm} {S : AS} {s f z g : Nat} {i : Int32} (hs : s < 4) (hf : f ≤ 2) (hz : z ≤ 48) (hg : g ≤ 2) (hT : S.1 30 s = nI 1) (hF : S.1 31 s = nI f) (hZ : S.1 32 s = nI z) : Rm G M_X9_lacks [.ref (gB G + 22), .int (nI s), .int (nI g), .int i] S (some (.int (nI (hiI f z g i)))) S := by
  refine Rn_of hp_X9_lacks [some (.ref (gB G + 22)), some (.int (nI s)), some (.int (nI g)), some (.int i)] rfl (Nat.le_of_ble_eq_true rfl) (Nat.le_of_ble_eq_true rfl) ?_
  refine V_al0 d_X9_lacks_0 ?_
  refine V_getR d_X9_lacks_1 rfl rfl (by decide) rfl ?_
  refine V_il1 d_X9_lacks_4 ?_
  refine V_zald d_X9_lacks_5 rfl (by decide) rfl (by omega) ?_
  refine V_topi hT ?_
  refine V_if_ne d_X9_lacks_6 (fun h6 => ?_) (fun q => absurd q (by decide))
  refine V_al0 d_X9_lacks_13 ?_
  refine V_getR d_X9_lacks_14 rfl rfl (by decide) rfl ?_
  refine V_il1 d_X9_lacks_17 ?_
  refine V_ialdE d_X9_lacks_18 rfl (by decide) rfl (show s < 4 by omega) hF ?_
  refine V_il2 d_X9_lacks_19 ?_
  refine U_ic_eqN d_X9_lacks_20 (by omega) (by omega) (fun h20 => ?_) (fun h20 => ?_)
  · refine V_il3 d_X9_lacks_27 ?_
    refine V_ki d_X9_lacks_28 ?_
    refine V_al0 d_X9_lacks_29 ?_
    refine V_getR d_X9_lacks_30 rfl rfl (by decide) rfl ?_
    refine V_il1 d_X9_lacks_33 ?_
    refine V_ialdE d_X9_lacks_34 rfl (by decide) rfl (show s < 4 by omega) hZ ?_
    refine V_ki d_X9_lacks_35 ?_
    refine V_isub d_X9_lacks_36 ?_
    refine U_cs3 d_X9_lacks_37 (c_X9_in) rfl ?_
    refine V_eqB d_X9_lacks_40 (fun h40 => ?_) (fun h40 => ?_)
    · refine V_ki d_X9_lacks_47 ?_
      exact V_iret d_X9_lacks_48 rfl (by rw [hiI, if_neg (by omega)]; first | rw [if_pos h40] | rw [if_neg (by rw [h40]; decide)]) rfl
    · refine V_ki d_X9_lacks_43 ?_
      refine V_goto d_X9_lacks_44 ?_
      exact V_iret d_X9_lacks_48 rfl (by rw [hiI, if_neg (by omega)]; first | rw [if_pos h40] | rw [if_neg (by rw [h40]; decide)]) rfl
  · refine V_ki d_X9_lacks_23 ?_
    refine V_goto d_X9_lacks_24 ?_
    exact V_iret d_X9_lacks_48 rfl (by rw [hiI, if_pos (by omega)]) rfl
set_option maxRecDepth 100000 in
theorem c_X9_keep {G : Gm} {S : AS} {s i f : Nat} {v : Int32} (hs : s < 4) (hi : i < 48) (hf : f ≤ 2) (hF : S.1 31 s = nI f) : Rm G M_X9_keep [.ref (gB G + 22), .int (nI s), .int (nI i), .int v] S none (sI S 33 (48 * s + i) (nrI f v)) := by
  refine Rn_of hp_X9_keep [some (.ref (gB G + 22)), some (.int (nI s)), some (.int (nI i)), some (.int v)] rfl (Nat.le_of_ble_eq_true rfl) (Nat.le_of_ble_eq_true rfl) ?_
  by_cases c0 : f = 0
  · rw [show nrI f v = v.toInt8.toInt32 by rw [nrI, if_pos c0]]
    refine V_al0 d_X9_keep_0 ?_
    refine V_getR d_X9_keep_1 rfl rfl (by decide) rfl ?_
    refine V_ki d_X9_keep_4 ?_
    refine V_il1 d_X9_keep_6 ?_
    first | with_reducible refine V_imulN d_X9_keep_7 ?_ | refine V_imul d_X9_keep_7 ?_
    refine V_il2 d_X9_keep_8 ?_
    first | with_reducible refine V_iaddN d_X9_keep_9 ?_ | refine V_iadd d_X9_keep_9 ?_
    refine V_al0 d_X9_keep_10 ?_
    refine V_getR d_X9_keep_11 rfl rfl (by decide) rfl ?_
    refine V_il1 d_X9_keep_14 ?_
    refine V_ialdE d_X9_keep_15 rfl (by decide) rfl (show s < 4 by omega) hF ?_
    refine U_if_neN d_X9_keep_16 (by omega) (fun q => absurd c0 q) (fun h16 => ?_)
    refine V_il3 d_X9_keep_19 ?_
    refine V_i2b d_X9_keep_20 ?_
    refine V_goto d_X9_keep_21 ?_
    refine V_iast d_X9_keep_40 rfl (by decide) rfl (show 48 * s + i < 192 by omega) ?_
    exact V_vret d_X9_keep_41 rfl rfl rfl
  · by_cases c1 : f = 1
    · rw [show nrI f v = v.toInt16.toInt32 by rw [nrI, if_neg c0, if_pos c1]]
      refine V_al0 d_X9_keep_0 ?_
      refine V_getR d_X9_keep_1 rfl rfl (by decide) rfl ?_
      refine V_ki d_X9_keep_4 ?_
      refine V_il1 d_X9_keep_6 ?_
      first | with_reducible refine V_imulN d_X9_keep_7 ?_ | refine V_imul d_X9_keep_7 ?_
      refine V_il2 d_X9_keep_8 ?_
      first | with_reducible refine V_iaddN d_X9_keep_9 ?_ | refine V_iadd d_X9_keep_9 ?_
      refine V_al0 d_X9_keep_10 ?_
      refine V_getR d_X9_keep_11 rfl rfl (by decide) rfl ?_
      refine V_il1 d_X9_keep_14 ?_
      refine V_ialdE d_X9_keep_15 rfl (by decide) rfl (show s < 4 by omega) hF ?_
      refine U_if_neN d_X9_keep_16 (by omega) (fun h16 => ?_) (fun q => absurd q c0)
      refine V_al0 d_X9_keep_24 ?_
      refine V_getR d_X9_keep_25 rfl rfl (by decide) rfl ?_
      refine V_il1 d_X9_keep_28 ?_
      refine V_ialdE d_X9_keep_29 rfl (by decide) rfl (show s < 4 by omega) hF ?_
      refine V_ki d_X9_keep_30 ?_
      refine U_ic_neN d_X9_keep_31 (by omega) (by omega) (fun q => absurd c1 q) (fun h31 => ?_)
      refine V_il3 d_X9_keep_34 ?_
      refine V_i2s d_X9_keep_35 ?_
      refine V_goto d_X9_keep_36 ?_
      refine V_iast d_X9_keep_40 rfl (by decide) rfl (show 48 * s + i < 192 by omega) ?_
      exact V_vret d_X9_keep_41 rfl rfl rfl
    · rw [show nrI f v = v by rw [nrI, if_neg c0, if_neg c1]]
      refine V_al0 d_X9_keep_0 ?_
      refine V_getR d_X9_keep_1 rfl rfl (by decide) rfl ?_
      refine V_ki d_X9_keep_4 ?_
      refine V_il1 d_X9_keep_6 ?_
      first | with_reducible refine V_imulN d_X9_keep_7 ?_ | refine V_imul d_X9_keep_7 ?_
      refine V_il2 d_X9_keep_8 ?_
      first | with_reducible refine V_iaddN d_X9_keep_9 ?_ | refine V_iadd d_X9_keep_9 ?_
      refine V_al0 d_X9_keep_10 ?_
      refine V_getR d_X9_keep_11 rfl rfl (by decide) rfl ?_
      refine V_il1 d_X9_keep_14 ?_
      refine V_ialdE d_X9_keep_15 rfl (by decide) rfl (show s < 4 by omega) hF ?_
      refine U_if_neN d_X9_keep_16 (by omega) (fun h16 => ?_) (fun q => absurd q c0)
      refine V_al0 d_X9_keep_24 ?_
      refine V_getR d_X9_keep_25 rfl rfl (by decide) rfl ?_
      refine V_il1 d_X9_keep_28 ?_
      refine V_ialdE d_X9_keep_29 rfl (by decide) rfl (show s < 4 by omega) hF ?_
      refine V_ki d_X9_keep_30 ?_
      refine U_ic_neN d_X9_keep_31 (by omega) (by omega) (fun h31 => ?_) (fun q => absurd q c1)
      refine V_il3 d_X9_keep_39 ?_
      refine V_iast d_X9_keep_40 rfl (by decide) rfl (show 48 * s + i < 192 by omega) ?_
      exact V_vret d_X9_keep_41 rfl rfl rfl
set_option maxRecDepth 100000 in
theorem o_lose {G : Gm} {a : Int32} : OPI G M_X8_lose M_X9_lose [.int a] := by
  intro S hS
  obtain ⟨b, sz, ft, N, w, wy, lk, nd, hx, hB, h⟩ := hS
  obtain ⟨⟨hsz, hbs⟩, hcn, hmt, hhc, hhm, hsh, hfd⟩ := id h
  have hN := PR_wf hx.2.2
  have hN8 := hN.1
  cases c0 : inR a (nI 0) (nI 3) with
  | false =>
    refine ⟨-2, S, S, ?_, ?_, ⟨b, sz, ft, N, w, wy, lk, nd, hx, hB, h⟩⟩
    · refine Rn_of hp_X8_lose [some (.ref (gB G + 0)), some (.int a)] rfl (Nat.le_of_ble_eq_true rfl) (Nat.le_of_ble_eq_true rfl) ?_
      refine V_il1 d_X8_lose_0 ?_
      refine U_cs1 d_X8_lose_1 (c_X8_isSheet) rfl ?_
      refine V_neB d_X8_lose_4 (fun q => (bTF q (c0)).elim) (fun h4 => ?_)
      refine V_ki d_X8_lose_7 ?_
      exact V_iret d_X8_lose_9 rfl (by first | rfl | simp_all) rfl
    · refine Rn_of hp_X9_lose [some (.ref (gB G + 22)), some (.int a)] rfl (Nat.le_of_ble_eq_true rfl) (Nat.le_of_ble_eq_true rfl) ?_
      refine V_il1 d_X9_lose_0 ?_
      refine U_cs1 d_X9_lose_1 (c_X9_isSheet) rfl ?_
      refine V_neB d_X9_lose_4 (fun q => (bTF q (c0)).elim) (fun h4 => ?_)
      refine V_ki d_X9_lose_7 ?_
      exact V_iret d_X9_lose_9 rfl (by first | rfl | simp_all) rfl
  | true =>
    obtain ⟨s, hs3, rfl⟩ := inR_ex (by decide) c0
    have hL := c_X5_isLost (G := G) (S := S) (s := s) (by omega)
    rcases hsh s (by omega) with ⟨g1, g2⟩ | ⟨f, z, g1, g2, g3, g4, g5, g6, g7, g8⟩
    · rw [decide_eq_true g1] at hL
      refine ⟨(-10 : Int32) - nI 1, sI S 17 4 (nI 1), sI (sI S 17 4 (nI 1)) 22 17 (nI 1), ?_, ?_, ⟨b, sz, ft, N, w, wy, lk, nd, hx, hB, ST_fd h⟩⟩
      · refine Rn_of hp_X8_lose [some (.ref (gB G + 0)), some (.int (nI s))] rfl (Nat.le_of_ble_eq_true rfl) (Nat.le_of_ble_eq_true rfl) ?_
        refine V_il1 d_X8_lose_0 ?_
        refine U_cs1 d_X8_lose_1 (c_X8_isSheet) rfl ?_
        refine V_neB d_X8_lose_4 (fun h4 => ?_) (fun q => (bTF (c0) q).elim)
        refine V_al0 d_X8_lose_10 ?_
        refine V_getR d_X8_lose_11 rfl rfl (by decide) rfl ?_
        refine V_il1 d_X8_lose_14 ?_
        refine U_cv1 d_X8_lose_15 (hL) rfl rfl rfl ?_
        refine V_eqB d_X8_lose_18 (fun q => (bTF (rfl) q).elim) (fun h18 => ?_)
        refine V_al0 d_X8_lose_21 ?_
        refine V_getR d_X8_lose_22 rfl rfl (by decide) rfl ?_
        refine V_ki d_X8_lose_25 ?_
        refine U_cv1 d_X8_lose_26 (c_X5_found) rfl rfl rfl ?_
        refine V_goto d_X8_lose_29 ?_
        exact V_iret d_X8_lose_40 rfl (by first | rfl | simp_all) rfl
      · refine Rn_of hp_X9_lose [some (.ref (gB G + 22)), some (.int (nI s))] rfl (Nat.le_of_ble_eq_true rfl) (Nat.le_of_ble_eq_true rfl) ?_
        refine V_il1 d_X9_lose_0 ?_
        refine U_cs1 d_X9_lose_1 (c_X9_isSheet) rfl ?_
        refine V_neB d_X9_lose_4 (fun h4 => ?_) (fun q => (bTF (c0) q).elim)
        refine V_al0 d_X9_lose_10 ?_
        refine V_getR d_X9_lose_11 rfl rfl (by decide) rfl ?_
        refine V_il1 d_X9_lose_14 ?_
        refine V_zald d_X9_lose_15 rfl (by decide) rfl (by omega) ?_
        refine V_topi (show (sI S 17 4 (nI 1)).1 30 s = nI 0 from g2) ?_
        refine V_if_ne d_X9_lose_16 (fun q => absurd rfl q) (fun h16 => ?_)
        refine V_al0 d_X9_lose_19 ?_
        refine V_ki d_X9_lose_20 ?_
        refine U_cv1 d_X9_lose_21 (c_X9_meets) rfl rfl rfl ?_
        exact V_iret d_X9_lose_24 rfl (by first | rfl | simp_all) rfl
    · rw [decide_eq_false (by rw [g3]; exact nI_m1 (by omega))] at hL
      have hd := c_X5_drop (G := G) (S := S) (s := s) (by omega)
      rw [g6] at hd
      have hst : ST (sI (sI S 18 s (-1)) 30 s (nI 0)) b sz ft N w wy lk nd := by
        refine ST_sh h ((Ag.rf.sI rfl).sI rfl) (SHv_upd (s := s) hsh (fun s' h1 h2 => ⟨?_, rfl, ?_, rfl, rfl, fun i hi => ⟨rfl, rfl⟩⟩) (Or.inl ⟨?_, ?_⟩)) hfd
        · show (if 18 = 18 ∧ s' = s then -1 else S.1 18 s') = S.1 18 s'
          rw [if_neg (fun z => h2 z.2)]
        · show (if 30 = 30 ∧ s' = s then nI 0 else S.1 30 s') = S.1 30 s'
          rw [if_neg (fun z => h2 z.2)]
        · show (if 18 = 18 ∧ s = s then -1 else S.1 18 s) = -1
          rw [if_pos ⟨rfl, rfl⟩]
        · show (if 30 = 30 ∧ s = s then nI 0 else S.1 30 s) = nI 0
          rw [if_pos ⟨rfl, rfl⟩]
      have g5' : (sI S 18 s (-1)).1 30 s = nI 1 := g5
      have g7' : (sI (sI S 18 s (-1)) 30 s (nI 0)).1 32 s = nI z := g7
      refine ⟨nI z, sI S 18 s (-1), sI (sI S 18 s (-1)) 30 s (nI 0), ?_, ?_, ⟨b, sz, ft, N, w, wy, lk, nd, hx, hB, hst⟩⟩
      · refine Rn_of hp_X8_lose [some (.ref (gB G + 0)), some (.int (nI s))] rfl (Nat.le_of_ble_eq_true rfl) (Nat.le_of_ble_eq_true rfl) ?_
        refine V_il1 d_X8_lose_0 ?_
        refine U_cs1 d_X8_lose_1 (c_X8_isSheet) rfl ?_
        refine V_neB d_X8_lose_4 (fun h4 => ?_) (fun q => (bTF (c0) q).elim)
        refine V_al0 d_X8_lose_10 ?_
        refine V_getR d_X8_lose_11 rfl rfl (by decide) rfl ?_
        refine V_il1 d_X8_lose_14 ?_
        refine U_cv1 d_X8_lose_15 (hL) rfl rfl rfl ?_
        refine V_eqB d_X8_lose_18 (fun h18 => ?_) (fun q => (bTF q (rfl)).elim)
        refine V_al0 d_X8_lose_32 ?_
        refine V_getR d_X8_lose_33 rfl rfl (by decide) rfl ?_
        refine V_il1 d_X8_lose_36 ?_
        refine U_cv1 d_X8_lose_37 (hd) rfl rfl rfl ?_
        exact V_iret d_X8_lose_40 rfl (by first | rfl | simp_all) rfl
      · refine Rn_of hp_X9_lose [some (.ref (gB G + 22)), some (.int (nI s))] rfl (Nat.le_of_ble_eq_true rfl) (Nat.le_of_ble_eq_true rfl) ?_
        refine V_il1 d_X9_lose_0 ?_
        refine U_cs1 d_X9_lose_1 (c_X9_isSheet) rfl ?_
        refine V_neB d_X9_lose_4 (fun h4 => ?_) (fun q => (bTF (c0) q).elim)
        refine V_al0 d_X9_lose_10 ?_
        refine V_getR d_X9_lose_11 rfl rfl (by decide) rfl ?_
        refine V_il1 d_X9_lose_14 ?_
        refine V_zald d_X9_lose_15 rfl (by decide) rfl (by omega) ?_
        refine V_topi g5' ?_
        refine V_if_ne d_X9_lose_16 (fun h16 => ?_) (fun q => absurd q (by decide))
        refine V_al0 d_X9_lose_25 ?_
        refine V_getR d_X9_lose_26 rfl rfl (by decide) rfl ?_
        refine V_il1 d_X9_lose_29 ?_
        refine V_ki d_X9_lose_30 ?_
        refine V_zast d_X9_lose_31 rfl (by decide) rfl (show s < 4 by omega) rfl ?_
        refine V_al0 d_X9_lose_32 ?_
        refine V_getR d_X9_lose_33 rfl rfl (by decide) rfl ?_
        refine V_il1 d_X9_lose_36 ?_
        refine V_ialdE d_X9_lose_37 rfl (by decide) rfl (show s < 4 by omega) g7' ?_
        exact V_iret d_X9_lose_38 rfl (by first | rfl | simp_all) rfl
theorem hiI_0 {f z g : Nat} {i : Int32} (hz : z ≤ 48) (h : hiI f z g i = 0) : f = g ∧ ∃ j, j < z ∧ i = nI j := by
  unfold hiI at h
  by_cases c : f ≠ g
  · rw [if_pos c] at h; cases h
  · rw [if_neg c] at h
    by_cases d : inR i (nI 0) (nI z - nI 1) = true
    · refine ⟨by omega, ?_⟩
      rw [tolB_in8 hz] at d
      exact tolB_ex (by omega) d
    · rw [if_neg d] at h; cases h
theorem hiI_le {f z g : Nat} {i : Int32} : hiI f z g i ≤ 3 := by
  unfold hiI
  split
  · omega
  · split <;> omega
theorem SHv_item {S : AS} {s j f z : Nat} {v : Int32} (hsh : SHv S) (hs : s < 4) (hj : j < z) (hf : f ≤ 2) (hz : z ≤ 48) (g3 : S.1 18 s = nI f) (g4 : S.1 31 s = nI f) (g5 : S.1 30 s = nI 1) (g6 : S.1 19 s = nI z) (g7 : S.1 32 s = nI z) (g8 : ∀ i, i < z → S.1 33 (48 * s + i) = S.1 20 (s * 48 + i) ∧ nrI f (S.1 20 (s * 48 + i)) = S.1 20 (s * 48 + i)) : SHv (sI (sI S 20 (s * 48 + j) (nrI f v)) 33 (48 * s + j) (nrI f v)) := by
  refine SHv_upd (s := s) hsh (fun s' h1 h2 => ⟨rfl, rfl, rfl, rfl, rfl, fun i hi => ⟨?_, ?_⟩⟩) (Or.inr ⟨f, z, hf, hz, g3, g4, g5, g6, g7, fun i hi => ?_⟩)
  · show (if 20 = 20 ∧ s' * 48 + i = s * 48 + j then nrI f v else S.1 20 (s' * 48 + i)) = S.1 20 (s' * 48 + i)
    rw [if_neg (fun q => h2 (by omega))]
  · show (if 33 = 33 ∧ 48 * s' + i = 48 * s + j then nrI f v else S.1 33 (48 * s' + i)) = S.1 33 (48 * s' + i)
    rw [if_neg (fun q => h2 (by omega))]
  · show (if 33 = 33 ∧ 48 * s + i = 48 * s + j then nrI f v else S.1 33 (48 * s + i)) = (if 20 = 20 ∧ s * 48 + i = s * 48 + j then nrI f v else S.1 20 (s * 48 + i)) ∧ nrI f (if 20 = 20 ∧ s * 48 + i = s * 48 + j then nrI f v else S.1 20 (s * 48 + i)) = (if 20 = 20 ∧ s * 48 + i = s * 48 + j then nrI f v else S.1 20 (s * 48 + i))
    by_cases e : i = j
    · subst e
      rw [if_pos ⟨rfl, rfl⟩, if_pos ⟨rfl, rfl⟩]
      exact ⟨rfl, nrI_nr f v⟩
    · rw [if_neg (fun q => e (by omega)), if_neg (fun q => e (by omega))]
      exact g8 i hi
set_option maxRecDepth 100000 in
theorem o_put {G : Gm} {a g i v : Int32} : OPI G M_X8_put M_X9_put [.int a, .int g, .int i, .int v] := by
  intro S hS
  obtain ⟨b, sz, ft, N, w, wy, lk, nd, hx, hB, h⟩ := hS
  obtain ⟨⟨hsz, hbs⟩, hcn, hmt, hhc, hhm, hsh, hfd⟩ := id h
  have hN := PR_wf hx.2.2
  have hN8 := hN.1
  cases c0 : inR a (nI 0) (nI 3) with
  | false =>
    refine ⟨-2, S, S, ?_, ?_, ⟨b, sz, ft, N, w, wy, lk, nd, hx, hB, h⟩⟩
    · refine Rn_of hp_X8_put [some (.ref (gB G + 0)), some (.int a), some (.int g), some (.int i), some (.int v), none] rfl (Nat.le_of_ble_eq_true rfl) (Nat.le_of_ble_eq_true rfl) ?_
      refine V_il1 d_X8_put_0 ?_
      refine U_cs1 d_X8_put_1 (c_X8_isSheet) rfl ?_
      refine V_eqB d_X8_put_4 (fun h4 => ?_) (fun q => (bTF q (c0)).elim)
      refine V_ki d_X8_put_14 ?_
      exact V_iret d_X8_put_16 rfl (by first | rfl | simp_all) rfl
    · refine Rn_of hp_X9_put [some (.ref (gB G + 22)), some (.int a), some (.int g), some (.int i), some (.int v), none] rfl (Nat.le_of_ble_eq_true rfl) (Nat.le_of_ble_eq_true rfl) ?_
      refine V_il1 d_X9_put_0 ?_
      refine U_cs1 d_X9_put_1 (c_X9_isSheet) rfl ?_
      refine V_eqB d_X9_put_4 (fun h4 => ?_) (fun q => (bTF q (c0)).elim)
      refine V_ki d_X9_put_16 ?_
      exact V_iret d_X9_put_18 rfl (by first | rfl | simp_all) rfl
  | true =>
    cases c1 : inR g (nI 0) (nI 2) with
    | false =>
      refine ⟨-2, S, S, ?_, ?_, ⟨b, sz, ft, N, w, wy, lk, nd, hx, hB, h⟩⟩
      · refine Rn_of hp_X8_put [some (.ref (gB G + 0)), some (.int a), some (.int g), some (.int i), some (.int v), none] rfl (Nat.le_of_ble_eq_true rfl) (Nat.le_of_ble_eq_true rfl) ?_
        refine V_il1 d_X8_put_0 ?_
        refine U_cs1 d_X8_put_1 (c_X8_isSheet) rfl ?_
        refine V_eqB d_X8_put_4 (fun q => (bTF (c0) q).elim) (fun h4 => ?_)
        refine V_il2 d_X8_put_7 ?_
        refine U_cs1 d_X8_put_8 (c_X8_isForm) rfl ?_
        refine V_neB d_X8_put_11 (fun q => (bTF q (c1)).elim) (fun h11 => ?_)
        refine V_ki d_X8_put_14 ?_
        exact V_iret d_X8_put_16 rfl (by first | rfl | simp_all) rfl
      · refine Rn_of hp_X9_put [some (.ref (gB G + 22)), some (.int a), some (.int g), some (.int i), some (.int v), none] rfl (Nat.le_of_ble_eq_true rfl) (Nat.le_of_ble_eq_true rfl) ?_
        refine V_il1 d_X9_put_0 ?_
        refine U_cs1 d_X9_put_1 (c_X9_isSheet) rfl ?_
        refine V_eqB d_X9_put_4 (fun q => (bTF (c0) q).elim) (fun h4 => ?_)
        refine V_il2 d_X9_put_7 ?_
        refine V_ki d_X9_put_8 ?_
        refine V_ki d_X9_put_9 ?_
        refine U_cs3 d_X9_put_10 (c_X9_in) rfl ?_
        refine V_neB d_X9_put_13 (fun q => (bTF q (c1)).elim) (fun h13 => ?_)
        refine V_ki d_X9_put_16 ?_
        exact V_iret d_X9_put_18 rfl (by first | rfl | simp_all) rfl
    | true =>
      obtain ⟨s, hs3, rfl⟩ := inR_ex (by decide) c0
      obtain ⟨g', hg, rfl⟩ := inR_ex (by decide) c1
      rcases hsh s (by omega) with ⟨g1, g2⟩ | ⟨f, z, g1, g2, g3, g4, g5, g6, g7, g8⟩
      · have hl := c_X5_hindrance_lost (G := G) (S := S) (s := s) (g := nI g') (i := i) (by omega) g1
        have hm := c_X9_lacks_lost (G := G) (S := sI S 17 4 (nI 1)) (s := s) (g := nI g') (i := i) (by omega) g2
        refine ⟨(-10 : Int32) - nI 1, sI S 17 4 (nI 1), sI (sI S 17 4 (nI 1)) 22 17 (nI 1), ?_, ?_, ⟨b, sz, ft, N, w, wy, lk, nd, hx, hB, ST_fd h⟩⟩
        · refine Rn_of hp_X8_put [some (.ref (gB G + 0)), some (.int (nI s)), some (.int (nI g')), some (.int i), some (.int v), none] rfl (Nat.le_of_ble_eq_true rfl) (Nat.le_of_ble_eq_true rfl) ?_
          refine V_il1 d_X8_put_0 ?_
          refine U_cs1 d_X8_put_1 (c_X8_isSheet) rfl ?_
          refine V_eqB d_X8_put_4 (fun q => (bTF (c0) q).elim) (fun h4 => ?_)
          refine V_il2 d_X8_put_7 ?_
          refine U_cs1 d_X8_put_8 (c_X8_isForm) rfl ?_
          refine V_neB d_X8_put_11 (fun h11 => ?_) (fun q => (bTF (c1) q).elim)
          refine V_al0 d_X8_put_17 ?_
          refine V_getR d_X8_put_18 rfl rfl (by decide) rfl ?_
          refine V_il1 d_X8_put_21 ?_
          refine V_il2 d_X8_put_22 ?_
          refine V_il3 d_X8_put_23 ?_
          refine U_cv3 d_X8_put_24 (hl) rfl rfl rfl ?_
          refine V_is5 d_X8_put_27 rfl ?_
          refine V_il5 d_X8_put_29 ?_
          refine V_if_eq d_X8_put_31 (fun q => absurd q (by decide)) (fun h31 => ?_)
          refine V_al0 d_X8_put_34 ?_
          refine V_getR d_X8_put_35 rfl rfl (by decide) rfl ?_
          refine V_il5 d_X8_put_38 ?_
          refine U_cv1 d_X8_put_40 (c_X5_found) rfl rfl rfl ?_
          exact V_iret d_X8_put_43 rfl (by first | rfl | simp_all) rfl
        · refine Rn_of hp_X9_put [some (.ref (gB G + 22)), some (.int (nI s)), some (.int (nI g')), some (.int i), some (.int v), none] rfl (Nat.le_of_ble_eq_true rfl) (Nat.le_of_ble_eq_true rfl) ?_
          refine V_il1 d_X9_put_0 ?_
          refine U_cs1 d_X9_put_1 (c_X9_isSheet) rfl ?_
          refine V_eqB d_X9_put_4 (fun q => (bTF (c0) q).elim) (fun h4 => ?_)
          refine V_il2 d_X9_put_7 ?_
          refine V_ki d_X9_put_8 ?_
          refine V_ki d_X9_put_9 ?_
          refine U_cs3 d_X9_put_10 (c_X9_in) rfl ?_
          refine V_neB d_X9_put_13 (fun h13 => ?_) (fun q => (bTF (c1) q).elim)
          refine V_al0 d_X9_put_19 ?_
          refine V_il1 d_X9_put_20 ?_
          refine V_il2 d_X9_put_21 ?_
          refine V_il3 d_X9_put_22 ?_
          refine U_cv3 d_X9_put_23 (hm) rfl rfl rfl ?_
          refine V_is5 d_X9_put_26 rfl ?_
          refine V_il5 d_X9_put_28 ?_
          refine V_if_le d_X9_put_30 (fun q => absurd q (by decide)) (fun h30 => ?_)
          refine V_al0 d_X9_put_33 ?_
          refine V_il5 d_X9_put_34 ?_
          refine U_cv1 d_X9_put_36 (c_X9_meets) rfl rfl rfl ?_
          exact V_iret d_X9_put_39 rfl (by first | rfl | simp_all) rfl
      · have hl := c_X5_hindrance (G := G) (S := S) (s := s) (g := g') (i := i) (by omega) g1 g2 hg g3 g6
        have hle : hiI f z g' i ≤ 3 := hiI_le
        by_cases c2 : hiI f z g' i = 0
        · obtain ⟨e1, j, hj, e2⟩ := hiI_0 g2 c2
          rw [c2] at hl
          subst e2
          have hch := c_X5_change (G := G) (S := S) (s := s) (i := j) (v := v) (by omega) (by omega) g1 g3
          have hm := c_X9_lacks (G := G) (S := sI S 20 (s * 48 + j) (nrI f v)) (s := s) (g := g') (i := nI j) (by omega) g1 g2 hg g5 g4 g7
          rw [c2] at hm
          have hk := c_X9_keep (G := G) (S := sI S 20 (s * 48 + j) (nrI f v)) (s := s) (i := j) (v := v) (by omega) (by omega) g1 g4
          have hst : ST (sI (sI S 20 (s * 48 + j) (nrI f v)) 33 (48 * s + j) (nrI f v)) b sz ft N w wy lk nd := ST_sh h ((Ag.rf.sI rfl).sI rfl) (SHv_item hsh (by omega) hj g1 g2 g3 g4 g5 g6 g7 g8) hfd
          refine ⟨nI 1, sI S 20 (s * 48 + j) (nrI f v), sI (sI S 20 (s * 48 + j) (nrI f v)) 33 (48 * s + j) (nrI f v), ?_, ?_, ⟨b, sz, ft, N, w, wy, lk, nd, hx, hB, hst⟩⟩
          · refine Rn_of hp_X8_put [some (.ref (gB G + 0)), some (.int (nI s)), some (.int (nI g')), some (.int (nI j)), some (.int v), none] rfl (Nat.le_of_ble_eq_true rfl) (Nat.le_of_ble_eq_true rfl) ?_
            refine V_il1 d_X8_put_0 ?_
            refine U_cs1 d_X8_put_1 (c_X8_isSheet) rfl ?_
            refine V_eqB d_X8_put_4 (fun q => (bTF (c0) q).elim) (fun h4 => ?_)
            refine V_il2 d_X8_put_7 ?_
            refine U_cs1 d_X8_put_8 (c_X8_isForm) rfl ?_
            refine V_neB d_X8_put_11 (fun h11 => ?_) (fun q => (bTF (c1) q).elim)
            refine V_al0 d_X8_put_17 ?_
            refine V_getR d_X8_put_18 rfl rfl (by decide) rfl ?_
            refine V_il1 d_X8_put_21 ?_
            refine V_il2 d_X8_put_22 ?_
            refine V_il3 d_X8_put_23 ?_
            refine U_cv3 d_X8_put_24 (hl) rfl rfl rfl ?_
            refine V_is5 d_X8_put_27 rfl ?_
            refine V_il5 d_X8_put_29 ?_
            refine V_if_eq d_X8_put_31 (fun h31 => ?_) (fun q => absurd rfl q)
            refine V_al0 d_X8_put_44 ?_
            refine V_getR d_X8_put_45 rfl rfl (by decide) rfl ?_
            refine V_il1 d_X8_put_48 ?_
            refine V_il3 d_X8_put_49 ?_
            refine V_il4 d_X8_put_50 ?_
            refine U_cv3v d_X8_put_52 (hch) rfl rfl rfl ?_
            refine V_ki d_X8_put_55 ?_
            exact V_iret d_X8_put_56 rfl (by first | rfl | simp_all) rfl
          · refine Rn_of hp_X9_put [some (.ref (gB G + 22)), some (.int (nI s)), some (.int (nI g')), some (.int (nI j)), some (.int v), none] rfl (Nat.le_of_ble_eq_true rfl) (Nat.le_of_ble_eq_true rfl) ?_
            refine V_il1 d_X9_put_0 ?_
            refine U_cs1 d_X9_put_1 (c_X9_isSheet) rfl ?_
            refine V_eqB d_X9_put_4 (fun q => (bTF (c0) q).elim) (fun h4 => ?_)
            refine V_il2 d_X9_put_7 ?_
            refine V_ki d_X9_put_8 ?_
            refine V_ki d_X9_put_9 ?_
            refine U_cs3 d_X9_put_10 (c_X9_in) rfl ?_
            refine V_neB d_X9_put_13 (fun h13 => ?_) (fun q => (bTF (c1) q).elim)
            refine V_al0 d_X9_put_19 ?_
            refine V_il1 d_X9_put_20 ?_
            refine V_il2 d_X9_put_21 ?_
            refine V_il3 d_X9_put_22 ?_
            refine U_cv3 d_X9_put_23 (hm) rfl rfl rfl ?_
            refine V_is5 d_X9_put_26 rfl ?_
            refine V_il5 d_X9_put_28 ?_
            refine U_if_leN d_X9_put_30 (by omega) (fun h30 => ?_) (fun q => absurd q (by omega))
            refine V_al0 d_X9_put_40 ?_
            refine V_il1 d_X9_put_41 ?_
            refine V_il3 d_X9_put_42 ?_
            refine V_il4 d_X9_put_43 ?_
            refine U_cv3v d_X9_put_45 (hk) rfl rfl rfl ?_
            refine V_ki d_X9_put_48 ?_
            exact V_iret d_X9_put_49 rfl (by first | rfl | simp_all) rfl
        · have hm := c_X9_lacks (G := G) (S := sI S 17 4 (nI (hiI f z g' i))) (s := s) (g := g') (i := i) (by omega) g1 g2 hg g5 g4 g7
          generalize hiI f z g' i = k at hl hm hle c2
          refine ⟨(-10 : Int32) - nI k, sI S 17 4 (nI k), sI (sI S 17 4 (nI k)) 22 17 (nI k), ?_, ?_, ⟨b, sz, ft, N, w, wy, lk, nd, hx, hB, ST_fd h⟩⟩
          · refine Rn_of hp_X8_put [some (.ref (gB G + 0)), some (.int (nI s)), some (.int (nI g')), some (.int i), some (.int v), none] rfl (Nat.le_of_ble_eq_true rfl) (Nat.le_of_ble_eq_true rfl) ?_
            refine V_il1 d_X8_put_0 ?_
            refine U_cs1 d_X8_put_1 (c_X8_isSheet) rfl ?_
            refine V_eqB d_X8_put_4 (fun q => (bTF (c0) q).elim) (fun h4 => ?_)
            refine V_il2 d_X8_put_7 ?_
            refine U_cs1 d_X8_put_8 (c_X8_isForm) rfl ?_
            refine V_neB d_X8_put_11 (fun h11 => ?_) (fun q => (bTF (c1) q).elim)
            refine V_al0 d_X8_put_17 ?_
            refine V_getR d_X8_put_18 rfl rfl (by decide) rfl ?_
            refine V_il1 d_X8_put_21 ?_
            refine V_il2 d_X8_put_22 ?_
            refine V_il3 d_X8_put_23 ?_
            refine U_cv3 d_X8_put_24 (hl) rfl rfl rfl ?_
            refine V_is5 d_X8_put_27 rfl ?_
            refine V_il5 d_X8_put_29 ?_
            refine U_if_eqN d_X8_put_31 (by omega) (fun q => absurd q c2) (fun h31 => ?_)
            refine V_al0 d_X8_put_34 ?_
            refine V_getR d_X8_put_35 rfl rfl (by decide) rfl ?_
            refine V_il5 d_X8_put_38 ?_
            refine U_cv1 d_X8_put_40 (c_X5_found) rfl rfl rfl ?_
            exact V_iret d_X8_put_43 rfl (by first | rfl | simp_all) rfl
          · refine Rn_of hp_X9_put [some (.ref (gB G + 22)), some (.int (nI s)), some (.int (nI g')), some (.int i), some (.int v), none] rfl (Nat.le_of_ble_eq_true rfl) (Nat.le_of_ble_eq_true rfl) ?_
            refine V_il1 d_X9_put_0 ?_
            refine U_cs1 d_X9_put_1 (c_X9_isSheet) rfl ?_
            refine V_eqB d_X9_put_4 (fun q => (bTF (c0) q).elim) (fun h4 => ?_)
            refine V_il2 d_X9_put_7 ?_
            refine V_ki d_X9_put_8 ?_
            refine V_ki d_X9_put_9 ?_
            refine U_cs3 d_X9_put_10 (c_X9_in) rfl ?_
            refine V_neB d_X9_put_13 (fun h13 => ?_) (fun q => (bTF (c1) q).elim)
            refine V_al0 d_X9_put_19 ?_
            refine V_il1 d_X9_put_20 ?_
            refine V_il2 d_X9_put_21 ?_
            refine V_il3 d_X9_put_22 ?_
            refine U_cv3 d_X9_put_23 (hm) rfl rfl rfl ?_
            refine V_is5 d_X9_put_26 rfl ?_
            refine V_il5 d_X9_put_28 ?_
            refine U_if_leN d_X9_put_30 (by omega) (fun q => absurd q (by omega)) (fun h30 => ?_)
            refine V_al0 d_X9_put_33 ?_
            refine V_il5 d_X9_put_34 ?_
            refine U_cv1 d_X9_put_36 (c_X9_meets) rfl rfl rfl ?_
            exact V_iret d_X9_put_39 rfl (by first | rfl | simp_all) rfl
set_option maxRecDepth 100000 in
theorem o_get {G : Gm} {a g i : Int32} : OPI G M_X8_get M_X9_get [.int a, .int g, .int i] := by
  intro S hS
  obtain ⟨b, sz, ft, N, w, wy, lk, nd, hx, hB, h⟩ := hS
  obtain ⟨⟨hsz, hbs⟩, hcn, hmt, hhc, hhm, hsh, hfd⟩ := id h
  have hN := PR_wf hx.2.2
  have hN8 := hN.1
  cases c0 : inR a (nI 0) (nI 3) with
  | false =>
    refine ⟨-2147483648, S, S, ?_, ?_, ⟨b, sz, ft, N, w, wy, lk, nd, hx, hB, h⟩⟩
    · refine Rn_of hp_X8_get [some (.ref (gB G + 0)), some (.int a), some (.int g), some (.int i), none] rfl (Nat.le_of_ble_eq_true rfl) (Nat.le_of_ble_eq_true rfl) ?_
      refine V_il1 d_X8_get_0 ?_
      refine U_cs1 d_X8_get_1 (c_X8_isSheet) rfl ?_
      refine V_eqB d_X8_get_4 (fun h4 => ?_) (fun q => (bTF q (c0)).elim)
      refine V_ldc d_X8_get_14 ?_
      exact V_iret d_X8_get_16 rfl (by first | rfl | simp_all) rfl
    · refine Rn_of hp_X9_get [some (.ref (gB G + 22)), some (.int a), some (.int g), some (.int i), none] rfl (Nat.le_of_ble_eq_true rfl) (Nat.le_of_ble_eq_true rfl) ?_
      refine V_il1 d_X9_get_0 ?_
      refine U_cs1 d_X9_get_1 (c_X9_isSheet) rfl ?_
      refine V_eqB d_X9_get_4 (fun h4 => ?_) (fun q => (bTF q (c0)).elim)
      refine V_ldc d_X9_get_16 ?_
      exact V_iret d_X9_get_18 rfl (by first | rfl | simp_all) rfl
  | true =>
    cases c1 : inR g (nI 0) (nI 2) with
    | false =>
      refine ⟨-2147483648, S, S, ?_, ?_, ⟨b, sz, ft, N, w, wy, lk, nd, hx, hB, h⟩⟩
      · refine Rn_of hp_X8_get [some (.ref (gB G + 0)), some (.int a), some (.int g), some (.int i), none] rfl (Nat.le_of_ble_eq_true rfl) (Nat.le_of_ble_eq_true rfl) ?_
        refine V_il1 d_X8_get_0 ?_
        refine U_cs1 d_X8_get_1 (c_X8_isSheet) rfl ?_
        refine V_eqB d_X8_get_4 (fun q => (bTF (c0) q).elim) (fun h4 => ?_)
        refine V_il2 d_X8_get_7 ?_
        refine U_cs1 d_X8_get_8 (c_X8_isForm) rfl ?_
        refine V_neB d_X8_get_11 (fun q => (bTF q (c1)).elim) (fun h11 => ?_)
        refine V_ldc d_X8_get_14 ?_
        exact V_iret d_X8_get_16 rfl (by first | rfl | simp_all) rfl
      · refine Rn_of hp_X9_get [some (.ref (gB G + 22)), some (.int a), some (.int g), some (.int i), none] rfl (Nat.le_of_ble_eq_true rfl) (Nat.le_of_ble_eq_true rfl) ?_
        refine V_il1 d_X9_get_0 ?_
        refine U_cs1 d_X9_get_1 (c_X9_isSheet) rfl ?_
        refine V_eqB d_X9_get_4 (fun q => (bTF (c0) q).elim) (fun h4 => ?_)
        refine V_il2 d_X9_get_7 ?_
        refine V_ki d_X9_get_8 ?_
        refine V_ki d_X9_get_9 ?_
        refine U_cs3 d_X9_get_10 (c_X9_in) rfl ?_
        refine V_neB d_X9_get_13 (fun q => (bTF q (c1)).elim) (fun h13 => ?_)
        refine V_ldc d_X9_get_16 ?_
        exact V_iret d_X9_get_18 rfl (by first | rfl | simp_all) rfl
    | true =>
      obtain ⟨s, hs3, rfl⟩ := inR_ex (by decide) c0
      obtain ⟨g', hg, rfl⟩ := inR_ex (by decide) c1
      rcases hsh s (by omega) with ⟨g1, g2⟩ | ⟨f, z, g1, g2, g3, g4, g5, g6, g7, g8⟩
      · have hl := c_X5_hindrance_lost (G := G) (S := S) (s := s) (g := nI g') (i := i) (by omega) g1
        have hm := c_X9_lacks_lost (G := G) (S := sI S 17 4 (nI 1)) (s := s) (g := nI g') (i := i) (by omega) g2
        refine ⟨-2147483648, sI S 17 4 (nI 1), sI (sI S 17 4 (nI 1)) 22 17 (nI 1), ?_, ?_, ⟨b, sz, ft, N, w, wy, lk, nd, hx, hB, ST_fd h⟩⟩
        · refine Rn_of hp_X8_get [some (.ref (gB G + 0)), some (.int (nI s)), some (.int (nI g')), some (.int i), none] rfl (Nat.le_of_ble_eq_true rfl) (Nat.le_of_ble_eq_true rfl) ?_
          refine V_il1 d_X8_get_0 ?_
          refine U_cs1 d_X8_get_1 (c_X8_isSheet) rfl ?_
          refine V_eqB d_X8_get_4 (fun q => (bTF (c0) q).elim) (fun h4 => ?_)
          refine V_il2 d_X8_get_7 ?_
          refine U_cs1 d_X8_get_8 (c_X8_isForm) rfl ?_
          refine V_neB d_X8_get_11 (fun h11 => ?_) (fun q => (bTF (c1) q).elim)
          refine V_al0 d_X8_get_17 ?_
          refine V_getR d_X8_get_18 rfl rfl (by decide) rfl ?_
          refine V_il1 d_X8_get_21 ?_
          refine V_il2 d_X8_get_22 ?_
          refine V_il3 d_X8_get_23 ?_
          refine U_cv3 d_X8_get_24 (hl) rfl rfl rfl ?_
          refine V_is4 d_X8_get_27 rfl ?_
          refine V_il4 d_X8_get_29 ?_
          refine V_if_eq d_X8_get_31 (fun q => absurd q (by decide)) (fun h31 => ?_)
          refine V_al0 d_X8_get_34 ?_
          refine V_getR d_X8_get_35 rfl rfl (by decide) rfl ?_
          refine V_il4 d_X8_get_38 ?_
          refine U_cv1 d_X8_get_40 (c_X5_found) rfl rfl rfl ?_
          refine V_pop d_X8_get_43 rfl ?_
          refine V_ldc d_X8_get_44 ?_
          exact V_iret d_X8_get_46 rfl (by first | rfl | simp_all) rfl
        · refine Rn_of hp_X9_get [some (.ref (gB G + 22)), some (.int (nI s)), some (.int (nI g')), some (.int i), none] rfl (Nat.le_of_ble_eq_true rfl) (Nat.le_of_ble_eq_true rfl) ?_
          refine V_il1 d_X9_get_0 ?_
          refine U_cs1 d_X9_get_1 (c_X9_isSheet) rfl ?_
          refine V_eqB d_X9_get_4 (fun q => (bTF (c0) q).elim) (fun h4 => ?_)
          refine V_il2 d_X9_get_7 ?_
          refine V_ki d_X9_get_8 ?_
          refine V_ki d_X9_get_9 ?_
          refine U_cs3 d_X9_get_10 (c_X9_in) rfl ?_
          refine V_neB d_X9_get_13 (fun h13 => ?_) (fun q => (bTF (c1) q).elim)
          refine V_al0 d_X9_get_19 ?_
          refine V_il1 d_X9_get_20 ?_
          refine V_il2 d_X9_get_21 ?_
          refine V_il3 d_X9_get_22 ?_
          refine U_cv3 d_X9_get_23 (hm) rfl rfl rfl ?_
          refine V_is4 d_X9_get_26 rfl ?_
          refine V_il4 d_X9_get_28 ?_
          refine V_if_le d_X9_get_30 (fun q => absurd q (by decide)) (fun h30 => ?_)
          refine V_al0 d_X9_get_33 ?_
          refine V_il4 d_X9_get_34 ?_
          refine V_putI d_X9_get_36 rfl rfl (by decide) rfl ?_
          refine V_ldc d_X9_get_39 ?_
          exact V_iret d_X9_get_41 rfl (by first | rfl | simp_all) rfl
      · have hl := c_X5_hindrance (G := G) (S := S) (s := s) (g := g') (i := i) (by omega) g1 g2 hg g3 g6
        have hle : hiI f z g' i ≤ 3 := hiI_le
        by_cases c2 : hiI f z g' i = 0
        · obtain ⟨e1, j, hj, e2⟩ := hiI_0 g2 c2
          rw [c2] at hl
          subst e2
          have hch := c_X5_itemOf (G := G) (S := S) (s := s) (i := j) (by omega) (by omega)
          have hm := c_X9_lacks (G := G) (S := S) (s := s) (g := g') (i := nI j) (by omega) g1 g2 hg g5 g4 g7
          rw [c2] at hm
          have hv := (g8 j hj).1
          refine ⟨S.1 20 (s * 48 + j), S, S, ?_, ?_, ⟨b, sz, ft, N, w, wy, lk, nd, hx, hB, h⟩⟩
          · refine Rn_of hp_X8_get [some (.ref (gB G + 0)), some (.int (nI s)), some (.int (nI g')), some (.int (nI j)), none] rfl (Nat.le_of_ble_eq_true rfl) (Nat.le_of_ble_eq_true rfl) ?_
            refine V_il1 d_X8_get_0 ?_
            refine U_cs1 d_X8_get_1 (c_X8_isSheet) rfl ?_
            refine V_eqB d_X8_get_4 (fun q => (bTF (c0) q).elim) (fun h4 => ?_)
            refine V_il2 d_X8_get_7 ?_
            refine U_cs1 d_X8_get_8 (c_X8_isForm) rfl ?_
            refine V_neB d_X8_get_11 (fun h11 => ?_) (fun q => (bTF (c1) q).elim)
            refine V_al0 d_X8_get_17 ?_
            refine V_getR d_X8_get_18 rfl rfl (by decide) rfl ?_
            refine V_il1 d_X8_get_21 ?_
            refine V_il2 d_X8_get_22 ?_
            refine V_il3 d_X8_get_23 ?_
            refine U_cv3 d_X8_get_24 (hl) rfl rfl rfl ?_
            refine V_is4 d_X8_get_27 rfl ?_
            refine V_il4 d_X8_get_29 ?_
            refine V_if_eq d_X8_get_31 (fun h31 => ?_) (fun q => absurd rfl q)
            refine V_al0 d_X8_get_47 ?_
            refine V_getR d_X8_get_48 rfl rfl (by decide) rfl ?_
            refine V_il1 d_X8_get_51 ?_
            refine V_il3 d_X8_get_52 ?_
            refine U_cv2 d_X8_get_53 (hch) rfl rfl rfl ?_
            exact V_iret d_X8_get_56 rfl (by first | rfl | simp_all) rfl
          · refine Rn_of hp_X9_get [some (.ref (gB G + 22)), some (.int (nI s)), some (.int (nI g')), some (.int (nI j)), none] rfl (Nat.le_of_ble_eq_true rfl) (Nat.le_of_ble_eq_true rfl) ?_
            refine V_il1 d_X9_get_0 ?_
            refine U_cs1 d_X9_get_1 (c_X9_isSheet) rfl ?_
            refine V_eqB d_X9_get_4 (fun q => (bTF (c0) q).elim) (fun h4 => ?_)
            refine V_il2 d_X9_get_7 ?_
            refine V_ki d_X9_get_8 ?_
            refine V_ki d_X9_get_9 ?_
            refine U_cs3 d_X9_get_10 (c_X9_in) rfl ?_
            refine V_neB d_X9_get_13 (fun h13 => ?_) (fun q => (bTF (c1) q).elim)
            refine V_al0 d_X9_get_19 ?_
            refine V_il1 d_X9_get_20 ?_
            refine V_il2 d_X9_get_21 ?_
            refine V_il3 d_X9_get_22 ?_
            refine U_cv3 d_X9_get_23 (hm) rfl rfl rfl ?_
            refine V_is4 d_X9_get_26 rfl ?_
            refine V_il4 d_X9_get_28 ?_
            refine U_if_leN d_X9_get_30 (by omega) (fun h30 => ?_) (fun q => absurd q (by omega))
            refine V_al0 d_X9_get_42 ?_
            refine V_getR d_X9_get_43 rfl rfl (by decide) rfl ?_
            refine V_ki d_X9_get_46 ?_
            refine V_il1 d_X9_get_48 ?_
            first | with_reducible refine V_imulN d_X9_get_49 ?_ | refine V_imul d_X9_get_49 ?_
            refine V_il3 d_X9_get_50 ?_
            first | with_reducible refine V_iaddN d_X9_get_51 ?_ | refine V_iadd d_X9_get_51 ?_
            refine V_ialdE d_X9_get_52 rfl (by decide) rfl (show 48 * s + j < 192 by omega) hv ?_
            exact V_iret d_X9_get_53 rfl (by first | rfl | simp_all) rfl
        · have hm := c_X9_lacks (G := G) (S := sI S 17 4 (nI (hiI f z g' i))) (s := s) (g := g') (i := i) (by omega) g1 g2 hg g5 g4 g7
          generalize hiI f z g' i = k at hl hm hle c2
          refine ⟨-2147483648, sI S 17 4 (nI k), sI (sI S 17 4 (nI k)) 22 17 (nI k), ?_, ?_, ⟨b, sz, ft, N, w, wy, lk, nd, hx, hB, ST_fd h⟩⟩
          · refine Rn_of hp_X8_get [some (.ref (gB G + 0)), some (.int (nI s)), some (.int (nI g')), some (.int i), none] rfl (Nat.le_of_ble_eq_true rfl) (Nat.le_of_ble_eq_true rfl) ?_
            refine V_il1 d_X8_get_0 ?_
            refine U_cs1 d_X8_get_1 (c_X8_isSheet) rfl ?_
            refine V_eqB d_X8_get_4 (fun q => (bTF (c0) q).elim) (fun h4 => ?_)
            refine V_il2 d_X8_get_7 ?_
            refine U_cs1 d_X8_get_8 (c_X8_isForm) rfl ?_
            refine V_neB d_X8_get_11 (fun h11 => ?_) (fun q => (bTF (c1) q).elim)
            refine V_al0 d_X8_get_17 ?_
            refine V_getR d_X8_get_18 rfl rfl (by decide) rfl ?_
            refine V_il1 d_X8_get_21 ?_
            refine V_il2 d_X8_get_22 ?_
            refine V_il3 d_X8_get_23 ?_
            refine U_cv3 d_X8_get_24 (hl) rfl rfl rfl ?_
            refine V_is4 d_X8_get_27 rfl ?_
            refine V_il4 d_X8_get_29 ?_
            refine U_if_eqN d_X8_get_31 (by omega) (fun q => absurd q c2) (fun h31 => ?_)
            refine V_al0 d_X8_get_34 ?_
            refine V_getR d_X8_get_35 rfl rfl (by decide) rfl ?_
            refine V_il4 d_X8_get_38 ?_
            refine U_cv1 d_X8_get_40 (c_X5_found) rfl rfl rfl ?_
            refine V_pop d_X8_get_43 rfl ?_
            refine V_ldc d_X8_get_44 ?_
            exact V_iret d_X8_get_46 rfl (by first | rfl | simp_all) rfl
          · refine Rn_of hp_X9_get [some (.ref (gB G + 22)), some (.int (nI s)), some (.int (nI g')), some (.int i), none] rfl (Nat.le_of_ble_eq_true rfl) (Nat.le_of_ble_eq_true rfl) ?_
            refine V_il1 d_X9_get_0 ?_
            refine U_cs1 d_X9_get_1 (c_X9_isSheet) rfl ?_
            refine V_eqB d_X9_get_4 (fun q => (bTF (c0) q).elim) (fun h4 => ?_)
            refine V_il2 d_X9_get_7 ?_
            refine V_ki d_X9_get_8 ?_
            refine V_ki d_X9_get_9 ?_
            refine U_cs3 d_X9_get_10 (c_X9_in) rfl ?_
            refine V_neB d_X9_get_13 (fun h13 => ?_) (fun q => (bTF (c1) q).elim)
            refine V_al0 d_X9_get_19 ?_
            refine V_il1 d_X9_get_20 ?_
            refine V_il2 d_X9_get_21 ?_
            refine V_il3 d_X9_get_22 ?_
            refine U_cv3 d_X9_get_23 (hm) rfl rfl rfl ?_
            refine V_is4 d_X9_get_26 rfl ?_
            refine V_il4 d_X9_get_28 ?_
            refine U_if_leN d_X9_get_30 (by omega) (fun q => absurd q (by omega)) (fun h30 => ?_)
            refine V_al0 d_X9_get_33 ?_
            refine V_il4 d_X9_get_34 ?_
            refine V_putI d_X9_get_36 rfl rfl (by decide) rfl ?_
            refine V_ldc d_X9_get_39 ?_
            exact V_iret d_X9_get_41 rfl (by first | rfl | simp_all) rfl
