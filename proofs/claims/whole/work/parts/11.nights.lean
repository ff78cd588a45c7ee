/-! the class's nights: scanning, reading -/
def SV (S : AS) (q : PSt) : Prop := S.1 4 6 = nI q.1.length ∧ S.1 4 7 = nI (msk q.2) ∧ (∀ n, n < 8 → S.1 7 n = nI (ni (q.1 ++ [q.2]) n).length) ∧ ∀ n, n < 8 → ∀ j, j < 6 → S.1 6 (n * 6 + j) = sh (ni (q.1 ++ [q.2]) n) j
def CNv (S : AS) (ft : Int32) (N : List (List Nat)) : Prop := S.1 4 5 = ft ∧ S.1 4 4 = nI N.length ∧ (∀ n, n < N.length → S.1 7 n = nI (ni N n).length) ∧ ∀ n, n < N.length → ∀ j, j < 6 → S.1 6 (n * 6 + j) = sh (ni N n) j
theorem ni_last (ns : List (List Nat)) (w : List Nat) : ni (ns ++ [w]) ns.length = w := by simp [ni]
theorem ni_ne (ns : List (List Nat)) (w w' : List Nat) {n : Nat} (h : n ≠ ns.length) : ni (ns ++ [w]) n = ni (ns ++ [w']) n := by
  simp only [ni, List.getD_eq_getElem?_getD, List.getElem?_append]
  split
  · rfl
  · rw [List.getElem?_eq_none (by simp; omega), List.getElem?_eq_none (by simp; omega)]
theorem ni_nil (ns : List (List Nat)) (n : Nat) : ni (ns ++ [[]]) n = ni ns n := by
  simp only [ni, List.getD_eq_getElem?_getD, List.getElem?_append]
  split
  · rfl
  · next h =>
    rw [List.getElem?_eq_none (show ns.length ≤ n by omega)]
    rcases Nat.eq_or_lt_of_le (show ns.length ≤ n by omega) with g | g
    · rw [← g, Nat.sub_self]; rfl
    · rw [List.getElem?_eq_none (by simp; omega)]
theorem sh_app (w : List Nat) (s j : Nat) : sh (w ++ [s]) j = if j = w.length then nI s else sh w j := by
  unfold sh
  by_cases h : j = w.length
  · subst h; simp
  · rw [if_neg h]
    rcases Nat.lt_or_ge j w.length with g | g
    · rw [List.getElem?_append_left g]
    · rw [List.getElem?_eq_none (by simp; omega), List.getElem?_eq_none (by omega)]
theorem SV_semi {S : AS} {q : PSt} (h : SV S q) : SV (sI (sI S 4 6 (nI (q.1.length + 1))) 4 7 (nI 0)) (q.1 ++ [q.2], []) := by
  obtain ⟨h1, h2, h3, h4⟩ := h
  refine ⟨?_, rfl, fun n hn => ?_, fun n hn j hj => ?_⟩
  · show nI (q.1.length + 1) = _
    simp
  · show S.1 7 n = _
    rw [ni_nil]; exact h3 n hn
  · show S.1 6 (n * 6 + j) = _
    rw [ni_nil]; exact h4 n hn j hj
theorem SV_shed {S : AS} {q : PSt} {s : Nat} (h : SV S q) (hl : q.2.length < 6) : SV (sI (sI (sI S 4 7 (nI (msk q.2 ||| 2 ^ s))) 6 (q.1.length * 6 + q.2.length) (nI s)) 7 q.1.length (nI (q.2.length + 1))) (q.1, q.2 ++ [s]) := by
  obtain ⟨h1, h2, h3, h4⟩ := h
  refine ⟨h1, ?_, fun n hn => ?_, fun n hn j hj => ?_⟩
  · show nI (msk q.2 ||| 2 ^ s) = _
    rw [msk_app]
  · rw [sI_1]
    by_cases e : n = q.1.length
    · rw [if_pos ⟨rfl, e⟩, e, ni_last]; simp
    · rw [if_neg (fun z => e z.2)]
      show S.1 7 n = _
      rw [ni_ne q.1 (q.2 ++ [s]) q.2 e]; exact h3 n hn
  · rw [sI_1, if_neg (fun z => absurd z.1 (by decide)), sI_1]
    by_cases e : n = q.1.length
    · subst e
      rw [ni_last, sh_app]
      by_cases e2 : j = q.2.length
      · rw [if_pos ⟨rfl, by omega⟩, if_pos e2]
      · rw [if_neg (fun z => e2 (by omega)), if_neg e2]
        have := h4 q.1.length hn j hj
        rw [ni_last] at this
        exact this
    · rw [if_neg (fun z => e (by omega)), ni_ne q.1 (q.2 ++ [s]) q.2 e]
      exact h4 n hn j hj
set_option maxRecDepth 100000 in
theorem c_goes_semi {G : Gm} {S : AS} {q : PSt} (hv : SV S q) (hw : WFq q) (hq : q.2 ≠ []) : Rm G M_X4_goesOnWith [.ref (gB G + 4), .int (nI 59)] S (some (.int (bI true))) (sI (sI S 4 6 (nI (q.1.length + 1))) 4 7 (nI 0)) := by
  have hm := msk_lt hw.2.2.1.2
  have hm0 : msk q.2 ≠ 0 := fun e => hq ((msk_0 hw.2.2.1.2).mp e)
  refine Rn_of hp_X4_goesOnWith [some (.ref (gB G + 4)), some (.int (nI 59)), none, none] rfl (Nat.le_of_ble_eq_true rfl) (Nat.le_of_ble_eq_true rfl) ?_
  refine V_il1 d_X4_goesOnWith_0 ?_
  refine V_ki d_X4_goesOnWith_1 ?_
  refine U_ic_neN d_X4_goesOnWith_3 (by omega) (by omega) (fun q => absurd rfl q) (fun h3 => ?_)
  refine V_al0 d_X4_goesOnWith_6 ?_
  refine V_getIe d_X4_goesOnWith_7 rfl rfl (by decide) (hv.2.1) ?_
  refine U_if_eqN d_X4_goesOnWith_10 (by omega) (fun q => absurd q hm0) (fun h10 => ?_)
  refine V_al0 d_X4_goesOnWith_13 ?_
  refine V_dup d_X4_goesOnWith_14 rfl ?_
  refine V_getIe d_X4_goesOnWith_15 rfl rfl (by decide) (hv.1) ?_
  refine V_ki d_X4_goesOnWith_18 ?_
  first | with_reducible refine V_iaddN d_X4_goesOnWith_19 ?_ | refine V_iadd d_X4_goesOnWith_19 ?_
  refine V_putI d_X4_goesOnWith_20 rfl rfl (by decide) rfl ?_
  refine V_al0 d_X4_goesOnWith_23 ?_
  refine V_ki d_X4_goesOnWith_24 ?_
  refine V_putI d_X4_goesOnWith_25 rfl rfl (by decide) rfl ?_
  refine V_ki d_X4_goesOnWith_28 ?_
  exact V_zret d_X4_goesOnWith_29 rfl rfl (by first | rfl | simp_all) rfl
set_option maxRecDepth 100000 in
theorem c_goes_shed {G : Gm} {S : AS} {q : PSt} {s : Nat} (hv : SV S q) (hw : WFq q) (hq : q.1.length < 8) (hs : s < 6) (hn : s ∉ q.2) : Rm G M_X4_goesOnWith [.ref (gB G + 4), .int (nI (48 + s))] S (some (.int (bI true))) (sI (sI (sI S 4 7 (nI (msk q.2 ||| 2 ^ s))) 6 (q.1.length * 6 + q.2.length) (nI s)) 7 q.1.length (nI (q.2.length + 1))) := by
  have hm := msk_lt hw.2.2.1.2
  have hl : q.2.length < 6 := by
    have := WFc_len (WFc_app hw.2.2.1 hs hn)
    simp at this; omega
  have hl0 := hv.2.2.1 q.1.length hq
  rw [ni_last] at hl0
  refine Rn_of hp_X4_goesOnWith [some (.ref (gB G + 4)), some (.int (nI (48 + s))), none, none] rfl (Nat.le_of_ble_eq_true rfl) (Nat.le_of_ble_eq_true rfl) ?_
  refine V_il1 d_X4_goesOnWith_0 ?_
  refine V_ki d_X4_goesOnWith_1 ?_
  refine U_ic_neN d_X4_goesOnWith_3 (by omega) (by omega) (fun h3 => ?_) (fun q => absurd q (by omega))
  refine V_il1 d_X4_goesOnWith_30 ?_
  refine V_ki d_X4_goesOnWith_31 ?_
  refine V_isubN d_X4_goesOnWith_33 (by omega) ?_
  rw [Nat.add_sub_cancel_left]
  refine V_is2 d_X4_goesOnWith_34 rfl ?_
  refine V_al0 d_X4_goesOnWith_35 ?_
  refine V_getIe d_X4_goesOnWith_36 rfl rfl (by decide) (hv.1) ?_
  refine V_ki d_X4_goesOnWith_39 ?_
  refine U_ic_geN d_X4_goesOnWith_41 (by omega) (by omega) (fun q => absurd q (by omega)) (fun h41 => ?_)
  refine V_il2 d_X4_goesOnWith_44 ?_
  refine U_cs1 d_X4_goesOnWith_45 (c_X8_isShed) rfl ?_
  refine V_eqB d_X4_goesOnWith_48 (fun q => (bTF (inR_T (by omega) (by decide)) q).elim) (fun h48 => ?_)
  refine V_al0 d_X4_goesOnWith_51 ?_
  refine V_getIe d_X4_goesOnWith_52 rfl rfl (by decide) (hv.2.1) ?_
  refine V_il2 d_X4_goesOnWith_55 ?_
  refine V_ishr d_X4_goesOnWith_56 ?_
  refine V_ki d_X4_goesOnWith_57 ?_
  refine V_iand d_X4_goesOnWith_58 ?_
  refine V_topi (y := nI 0) (by rw [bit_get _ hm _ hs, msk_bit]; simp [hn]) ?_
  refine U_if_eqN d_X4_goesOnWith_59 (by omega) (fun h59 => ?_) (fun q => absurd rfl q)
  refine V_al0 d_X4_goesOnWith_64 ?_
  refine V_dup d_X4_goesOnWith_65 rfl ?_
  refine V_getIe d_X4_goesOnWith_66 rfl rfl (by decide) (hv.2.1) ?_
  refine V_ki d_X4_goesOnWith_69 ?_
  refine V_il2 d_X4_goesOnWith_70 ?_
  refine V_ishl d_X4_goesOnWith_71 ?_
  refine V_ior d_X4_goesOnWith_72 ?_
  refine V_topi (bit_set _ hm _ hs) ?_
  refine V_putI d_X4_goesOnWith_73 rfl rfl (by decide) rfl ?_
  refine V_al0 d_X4_goesOnWith_76 ?_
  refine V_getR d_X4_goesOnWith_77 rfl rfl (by decide) rfl ?_
  refine V_al0 d_X4_goesOnWith_80 ?_
  refine V_getIe d_X4_goesOnWith_81 rfl rfl (by decide) (hv.1) ?_
  refine U_cs2 d_X4_goesOnWith_84 (c_X8_item (j := q.1.length) rfl (by decide) rfl (by omega)) rfl ?_
  refine V_topi hl0 ?_
  refine V_is3 d_X4_goesOnWith_87 rfl ?_
  refine V_al0 d_X4_goesOnWith_88 ?_
  refine V_getR d_X4_goesOnWith_89 rfl rfl (by decide) rfl ?_
  refine V_al0 d_X4_goesOnWith_92 ?_
  refine V_getIe d_X4_goesOnWith_93 rfl rfl (by decide) (hv.1) ?_
  refine V_ki d_X4_goesOnWith_96 ?_
  first | with_reducible refine V_imulN d_X4_goesOnWith_98 ?_ | refine V_imul d_X4_goesOnWith_98 ?_
  refine V_il3 d_X4_goesOnWith_99 ?_
  first | with_reducible refine V_iaddN d_X4_goesOnWith_100 ?_ | refine V_iadd d_X4_goesOnWith_100 ?_
  refine V_il2 d_X4_goesOnWith_101 ?_
  refine U_cs3v d_X4_goesOnWith_102 (c_X8_keep (j := q.1.length * 6 + q.2.length) rfl (by decide) rfl (by omega)) rfl ?_
  refine V_al0 d_X4_goesOnWith_105 ?_
  refine V_getR d_X4_goesOnWith_106 rfl rfl (by decide) rfl ?_
  refine V_al0 d_X4_goesOnWith_109 ?_
  refine V_getIe d_X4_goesOnWith_110 rfl rfl (by decide) (hv.1) ?_
  refine V_il3 d_X4_goesOnWith_113 ?_
  refine V_ki d_X4_goesOnWith_114 ?_
  first | with_reducible refine V_iaddN d_X4_goesOnWith_115 ?_ | refine V_iadd d_X4_goesOnWith_115 ?_
  refine U_cs3v d_X4_goesOnWith_116 (c_X8_keep (j := q.1.length) rfl (by decide) rfl (by omega)) rfl ?_
  refine V_ki d_X4_goesOnWith_119 ?_
  exact V_zret d_X4_goesOnWith_120 rfl rfl (by first | rfl | simp_all) rfl
set_option maxRecDepth 100000 in
theorem c_goes_no {G : Gm} {S : AS} {q : PSt} {c : Nat} (hv : SV S q) (hw : WFq q) (hc : c < 256) (hq : pstep q c = none) : Rm G M_X4_goesOnWith [.ref (gB G + 4), .int (nI c)] S (some (.int (bI false))) S := by
  have hm := msk_lt hw.2.2.1.2
  have h8 := hw.1
  unfold pstep at hq
  split at hq
  · cases hq
  next g1 =>
  split at hq
  · cases hq
  next g2 =>
  have rest : U G M_X4_goesOnWith (Ze G (some (.int (bI false))) S) 30 [some (.ref (gB G + 4)), some (.int (nI c)), none, none] [] S := by
    by_cases g3 : q.1.length < 8
    · by_cases g4 : 48 ≤ c ∧ c < 54
      · obtain ⟨s, rfl⟩ : ∃ s, c = 48 + s := ⟨c - 48, by omega⟩
        have hs : s < 6 := by omega
        have hn : s ∈ q.2 := by
          refine Classical.byContradiction fun hn => g2 ⟨g3, by omega, by omega, ?_⟩
          rw [Nat.add_sub_cancel_left]; exact hn
        refine V_il1 d_X4_goesOnWith_30 ?_
        refine V_ki d_X4_goesOnWith_31 ?_
        refine V_isubN d_X4_goesOnWith_33 (by omega) ?_
        rw [Nat.add_sub_cancel_left]
        refine V_is2 d_X4_goesOnWith_34 rfl ?_
        refine V_al0 d_X4_goesOnWith_35 ?_
        refine V_getIe d_X4_goesOnWith_36 rfl rfl (by decide) (hv.1) ?_
        refine V_ki d_X4_goesOnWith_39 ?_
        refine U_ic_geN d_X4_goesOnWith_41 (by omega) (by omega) (fun q => absurd q (by omega)) (fun h41 => ?_)
        refine V_il2 d_X4_goesOnWith_44 ?_
        refine U_cs1 d_X4_goesOnWith_45 (c_X8_isShed) rfl ?_
        refine V_eqB d_X4_goesOnWith_48 (fun q => (bTF (inR_T (by omega) (by decide)) q).elim) (fun h48 => ?_)
        refine V_al0 d_X4_goesOnWith_51 ?_
        refine V_getIe d_X4_goesOnWith_52 rfl rfl (by decide) (hv.2.1) ?_
        refine V_il2 d_X4_goesOnWith_55 ?_
        refine V_ishr d_X4_goesOnWith_56 ?_
        refine V_ki d_X4_goesOnWith_57 ?_
        refine V_iand d_X4_goesOnWith_58 ?_
        refine V_topi (y := nI 1) (by rw [bit_get _ hm _ hs, msk_bit]; simp [hn]) ?_
        refine U_if_eqN d_X4_goesOnWith_59 (by omega) (fun q => absurd q (by omega)) (fun h59 => ?_)
        refine V_ki d_X4_goesOnWith_62 ?_
        exact V_zret d_X4_goesOnWith_63 rfl rfl (by first | rfl | simp_all) rfl
      · have hns : inR (nI c - nI 48) (nI 0) (nI 5) = false := by
          rcases Nat.lt_or_ge c 48 with g | g
          · exact inR_f1 (pk_sneg (by decide) g)
          · rw [pk_sub g]; exact inR_F (by omega) (by omega)
        refine V_il1 d_X4_goesOnWith_30 ?_
        refine V_ki d_X4_goesOnWith_31 ?_
        refine V_isub d_X4_goesOnWith_33 ?_
        refine V_is2 d_X4_goesOnWith_34 rfl ?_
        refine V_al0 d_X4_goesOnWith_35 ?_
        refine V_getIe d_X4_goesOnWith_36 rfl rfl (by decide) (hv.1) ?_
        refine V_ki d_X4_goesOnWith_39 ?_
        refine U_ic_geN d_X4_goesOnWith_41 (by omega) (by omega) (fun q => absurd q (by omega)) (fun h41 => ?_)
        refine V_il2 d_X4_goesOnWith_44 ?_
        refine U_cs1 d_X4_goesOnWith_45 (c_X8_isShed) rfl ?_
        refine V_eqB d_X4_goesOnWith_48 (fun h48 => ?_) (fun q => (bTF q hns).elim)
        refine V_ki d_X4_goesOnWith_62 ?_
        exact V_zret d_X4_goesOnWith_63 rfl rfl (by first | rfl | simp_all) rfl
    · refine V_il1 d_X4_goesOnWith_30 ?_
      refine V_ki d_X4_goesOnWith_31 ?_
      refine V_isub d_X4_goesOnWith_33 ?_
      refine V_is2 d_X4_goesOnWith_34 rfl ?_
      refine V_al0 d_X4_goesOnWith_35 ?_
      refine V_getIe d_X4_goesOnWith_36 rfl rfl (by decide) (hv.1) ?_
      refine V_ki d_X4_goesOnWith_39 ?_
      refine U_ic_geN d_X4_goesOnWith_41 (by omega) (by omega) (fun h41 => ?_) (fun q => absurd q (by omega))
      refine V_ki d_X4_goesOnWith_62 ?_
      exact V_zret d_X4_goesOnWith_63 rfl rfl (by first | rfl | simp_all) rfl
  refine Rn_of hp_X4_goesOnWith [some (.ref (gB G + 4)), some (.int (nI c)), none, none] rfl (Nat.le_of_ble_eq_true rfl) (Nat.le_of_ble_eq_true rfl) ?_
  refine V_il1 d_X4_goesOnWith_0 ?_
  refine V_ki d_X4_goesOnWith_1 ?_
  refine U_ic_neN d_X4_goesOnWith_3 (by omega) (by omega) (fun h3 => ?_) (fun h3 => ?_)
  · exact rest
  · refine V_al0 d_X4_goesOnWith_6 ?_
    refine V_getIe d_X4_goesOnWith_7 rfl rfl (by decide) (hv.2.1) ?_
    refine U_if_eqN d_X4_goesOnWith_10 (by omega) (fun h10 => ?_) (fun q => (g1 ⟨by omega, fun e => q ((msk_0 hw.2.2.1.2).mpr e)⟩).elim)
    exact rest
def PN (a b : Nat) : Bool := (a == 4 && (b == 4 || b == 5 || b == 6 || b == 7)) || a == 6 || a == 7
theorem SV_0 (S : AS) : SV (fillS (fillS (sI (sI (sI S 4 5 (-1)) 4 6 (nI 0)) 4 7 (nI 0)) 7 8 (nI 0)) 6 48 (-1)) ([], []) := by
  refine ⟨rfl, rfl, fun n hn => ?_, fun n hn j hj => ?_⟩
  · exact Eq.trans (b := nI 0) (by simp [fillS, hn]) (by cases n <;> rfl)
  · exact Eq.trans (b := -1) (by simp [fillS, show n * 6 + j < 48 by omega]) (by cases n <;> rfl)
set_option maxRecDepth 100000 in
theorem c_X4_reread {G : Gm} {S : AS} {b : Nat → Nat} {sz : Nat} (hsz : S.1 4 3 = nI sz) (h60 : sz ≤ 60) (hb : ∀ i, i < sz → S.1 5 i = nI (b i) ∧ b i < 256) : ∃ (SE : AS) (ft : Int32) (N : List (List Nat)), Rm G M_X4_reread [.ref (gB G + 4)] S none SE ∧ PR b sz ft N ∧ CNv SE ft N ∧ Ag PN S SE := by
  -- the tail, when the fault is set
  have t1 : ∀ (S1 : AS) (i : Nat) (x : Option Value), i ≤ 60 → S1.1 4 5 = nI i → S1.1 4 3 = nI sz → U G M_X4_reread (Ze G none (sI S1 4 4 (nI 0))) 75 [some (.ref (gB G + 4)), x] [] S1 := by
    intro S1 i x hi h5 h3
    refine V_al0 d_X4_reread_75 ?_
    refine V_getIe d_X4_reread_76 rfl rfl (by decide) (h5) ?_
    refine V_ki d_X4_reread_79 ?_
    refine V_ic_ne d_X4_reread_80 (fun h80 => ?_) (fun q => (nI_m1 (by omega) q).elim)
    refine V_al0 d_X4_reread_105 ?_
    refine V_al0 d_X4_reread_106 ?_
    refine V_getIe d_X4_reread_107 rfl rfl (by decide) (h5) ?_
    refine V_ki d_X4_reread_110 ?_
    refine V_ic_ne d_X4_reread_111 (fun h111 => ?_) (fun q => (nI_m1 (by omega) q).elim)
    refine V_ki d_X4_reread_121 ?_
    refine V_goto d_X4_reread_122 ?_
    refine V_putI d_X4_reread_131 rfl rfl (by decide) rfl ?_
    exact V_vret d_X4_reread_134 rfl rfl rfl
  have t2 : ∀ (S1 : AS) (x : Option Value), S1.1 4 5 = -1 → S1.1 4 3 = nI sz → sz = 0 → U G M_X4_reread (Ze G none (sI S1 4 4 (nI 0))) 75 [some (.ref (gB G + 4)), x] [] S1 := by
    intro S1 x h5 h3 h0
    refine V_al0 d_X4_reread_75 ?_
    refine V_getIe d_X4_reread_76 rfl rfl (by decide) (h5) ?_
    refine V_ki d_X4_reread_79 ?_
    refine V_ic_ne d_X4_reread_80 (fun q => absurd rfl q) (fun h80 => ?_)
    refine V_al0 d_X4_reread_83 ?_
    refine V_getIe d_X4_reread_84 rfl rfl (by decide) (h3) ?_
    refine U_if_leN d_X4_reread_87 (by omega) (fun h87 => ?_) (fun q => absurd q (by omega))
    refine V_al0 d_X4_reread_105 ?_
    refine V_al0 d_X4_reread_106 ?_
    refine V_getIe d_X4_reread_107 rfl rfl (by decide) (h5) ?_
    refine V_ki d_X4_reread_110 ?_
    refine V_ic_ne d_X4_reread_111 (fun q => absurd rfl q) (fun h111 => ?_)
    refine V_al0 d_X4_reread_114 ?_
    refine V_getIe d_X4_reread_115 rfl rfl (by decide) (h3) ?_
    refine U_if_neN d_X4_reread_118 (by omega) (fun q => absurd h0 q) (fun h118 => ?_)
    refine V_ki d_X4_reread_121 ?_
    refine V_goto d_X4_reread_122 ?_
    refine V_putI d_X4_reread_131 rfl rfl (by decide) rfl ?_
    exact V_vret d_X4_reread_134 rfl rfl rfl
  have t3 : ∀ (S1 : AS) (x : Option Value), S1.1 4 5 = -1 → S1.1 4 3 = nI sz → 0 < sz → S1.1 4 7 = nI 0 → U G M_X4_reread (Ze G none (sI (sI S1 4 5 (nI sz)) 4 4 (nI 0))) 75 [some (.ref (gB G + 4)), x] [] S1 := by
    intro S1 x h5 h3 h0 h7
    refine V_al0 d_X4_reread_75 ?_
    refine V_getIe d_X4_reread_76 rfl rfl (by decide) (h5) ?_
    refine V_ki d_X4_reread_79 ?_
    refine V_ic_ne d_X4_reread_80 (fun q => absurd rfl q) (fun h80 => ?_)
    refine V_al0 d_X4_reread_83 ?_
    refine V_getIe d_X4_reread_84 rfl rfl (by decide) (h3) ?_
    refine U_if_leN d_X4_reread_87 (by omega) (fun q => absurd q (by omega)) (fun h87 => ?_)
    refine V_al0 d_X4_reread_90 ?_
    refine V_getIe d_X4_reread_91 rfl rfl (by decide) (h7) ?_
    refine U_if_neN d_X4_reread_94 (by omega) (fun q => absurd rfl q) (fun h94 => ?_)
    refine V_al0 d_X4_reread_97 ?_
    refine V_al0 d_X4_reread_98 ?_
    refine V_getIe d_X4_reread_99 rfl rfl (by decide) (h3) ?_
    refine V_putI d_X4_reread_102 rfl rfl (by decide) rfl ?_
    refine V_al0 d_X4_reread_105 ?_
    refine V_al0 d_X4_reread_106 ?_
    refine V_getIe d_X4_reread_107 rfl rfl (by decide) ((show _ = nI sz from rfl)) ?_
    refine V_ki d_X4_reread_110 ?_
    refine V_ic_ne d_X4_reread_111 (fun h111 => ?_) (fun q => (nI_m1 (by omega) q).elim)
    refine V_ki d_X4_reread_121 ?_
    refine V_goto d_X4_reread_122 ?_
    refine V_putI d_X4_reread_131 rfl rfl (by decide) rfl ?_
    exact V_vret d_X4_reread_134 rfl rfl rfl
  have t4 : ∀ (S1 : AS) (x : Option Value) (m o : Nat), S1.1 4 5 = -1 → S1.1 4 3 = nI sz → 0 < sz → S1.1 4 7 = nI m → m < 64 → m ≠ 0 → S1.1 4 6 = nI o → U G M_X4_reread (Ze G none (sI S1 4 4 (nI (o + 1)))) 75 [some (.ref (gB G + 4)), x] [] S1 := by
    intro S1 x m o h5 h3 h0 h7 hm hm0 h6
    refine V_al0 d_X4_reread_75 ?_
    refine V_getIe d_X4_reread_76 rfl rfl (by decide) (h5) ?_
    refine V_ki d_X4_reread_79 ?_
    refine V_ic_ne d_X4_reread_80 (fun q => absurd rfl q) (fun h80 => ?_)
    refine V_al0 d_X4_reread_83 ?_
    refine V_getIe d_X4_reread_84 rfl rfl (by decide) (h3) ?_
    refine U_if_leN d_X4_reread_87 (by omega) (fun q => absurd q (by omega)) (fun h87 => ?_)
    refine V_al0 d_X4_reread_90 ?_
    refine V_getIe d_X4_reread_91 rfl rfl (by decide) (h7) ?_
    refine U_if_neN d_X4_reread_94 (by omega) (fun h94 => ?_) (fun q => absurd q hm0)
    refine V_al0 d_X4_reread_105 ?_
    refine V_al0 d_X4_reread_106 ?_
    refine V_getIe d_X4_reread_107 rfl rfl (by decide) (h5) ?_
    refine V_ki d_X4_reread_110 ?_
    refine V_ic_ne d_X4_reread_111 (fun q => absurd rfl q) (fun h111 => ?_)
    refine V_al0 d_X4_reread_114 ?_
    refine V_getIe d_X4_reread_115 rfl rfl (by decide) (h3) ?_
    refine U_if_neN d_X4_reread_118 (by omega) (fun h118 => ?_) (fun q => absurd q (by omega))
    refine V_al0 d_X4_reread_125 ?_
    refine V_getIe d_X4_reread_126 rfl rfl (by decide) (h6) ?_
    refine V_ki d_X4_reread_129 ?_
    first | with_reducible refine V_iaddN d_X4_reread_130 ?_ | refine V_iadd d_X4_reread_130 ?_
    refine V_putI d_X4_reread_131 rfl rfl (by decide) rfl ?_
    exact V_vret d_X4_reread_134 rfl rfl rfl
  have loop : ∀ (d i : Nat) (q : PSt) (S1 : AS), i + d = sz → pfold b i = some q → SV S1 q → S1.1 4 5 = -1 → S1.1 4 3 = nI sz → (∀ i, i < sz → S1.1 5 i = nI (b i) ∧ b i < 256) →
      ∃ (SE : AS) (ft : Int32) (N : List (List Nat)), U G M_X4_reread (Ze G none SE) 33 [some (.ref (gB G + 4)), some (.int (nI i))] [] S1 ∧ PR b sz ft N ∧ CNv SE ft N ∧ Ag PN S1 SE := by
    intro d
    induction d with
    | zero =>
      intro i q S1 hi hp hv h5 h3 hb1
      rw [Nat.add_zero] at hi
      subst hi
      have hw := WFq_fold hp
      have go : ∀ SE, U G M_X4_reread (Ze G none SE) 75 [some (.ref (gB G + 4)), some (.int (nI i))] [] S1 → U G M_X4_reread (Ze G none SE) 33 [some (.ref (gB G + 4)), some (.int (nI i))] [] S1 := by
        intro SE k
        refine V_il1 d_X4_reread_33 ?_
        refine V_al0 d_X4_reread_34 ?_
        refine V_getIe d_X4_reread_35 rfl rfl (by decide) (h3) ?_
        refine U_ic_geN d_X4_reread_38 (by omega) (by omega) (fun h38 => ?_) (fun q => absurd q (by omega))
        exact k
      rcases Nat.eq_zero_or_pos i with h0 | h0
      · refine ⟨_, -1, [], go _ (t2 S1 _ h5 h3 h0), Or.inr ⟨q, hp, Or.inl ⟨h0, rfl, rfl⟩⟩, ⟨h5, rfl, fun n hn => absurd hn (Nat.not_lt_zero _), fun n hn => absurd hn (Nat.not_lt_zero _)⟩, Ag.rf.sI rfl⟩
      · by_cases hq : q.2 = []
        · have h7 : S1.1 4 7 = nI 0 := by rw [hv.2.1, hq]; rfl
          refine ⟨_, nI i, [], go _ (t3 S1 _ h5 h3 h0 h7), Or.inr ⟨q, hp, Or.inr (Or.inl ⟨h0, hq, rfl, rfl⟩)⟩, ⟨rfl, rfl, fun n hn => absurd hn (Nat.not_lt_zero _), fun n hn => absurd hn (Nat.not_lt_zero _)⟩, (Ag.rf.sI rfl).sI rfl⟩
        · have hl : q.1.length < 8 := by
            rcases Nat.lt_or_ge q.1.length 8 with g | g
            · exact g
            · exact absurd (hw.2.2.2 (Nat.le_antisymm hw.1 g)) hq
          refine ⟨_, -1, q.1 ++ [q.2], go _ (t4 S1 _ _ _ h5 h3 h0 hv.2.1 (msk_lt hw.2.2.1.2) (fun e => hq ((msk_0 hw.2.2.1.2).mp e)) hv.1), Or.inr ⟨q, hp, Or.inr (Or.inr ⟨h0, hq, rfl, rfl⟩)⟩, ⟨h5, ?_, fun n hn => ?_, fun n hn j hj => ?_⟩, Ag.rf.sI rfl⟩
          · show nI (q.1.length + 1) = _
            simp
          · have : n < 8 := by simp at hn; omega
            exact hv.2.2.1 n this
          · have : n < 8 := by simp at hn; omega
            exact hv.2.2.2 n this j hj
    | succ d ih =>
      intro i q S1 hi hp hv h5 h3 hb1
      have hw := WFq_fold hp
      have hbi := hb1 i (by omega)
      cases hs : pstep q (b i) with
      | some q' =>
        have hp' : pfold b (i + 1) = some q' := by rw [pfold, hp]; exact hs
        -- the call
        have call : ∃ S2, Rm G M_X4_goesOnWith [.ref (gB G + 4), .int (nI (b i))] S1 (some (.int (bI true))) S2 ∧ SV S2 q' ∧ Ag (fun a b => (a == 4 && (b == 6 || b == 7)) || a == 6 || a == 7) S1 S2 := by
          unfold pstep at hs
          split at hs
          · next g =>
            cases hs
            have e := g.1
            rw [e]
            exact ⟨_, c_goes_semi hv hw g.2, SV_semi hv, (Ag.rf.sI rfl).sI rfl⟩
          · split at hs
            · next g =>
              cases hs
              obtain ⟨g1, g2, g3, g4⟩ := g
              have e : b i = 48 + (b i - 48) := by omega
              have hl : q.2.length < 6 := by
                have := WFc_len (WFc_app hw.2.2.1 (show b i - 48 < 6 by omega) g4)
                simp at this; omega
              have h := c_goes_shed (G := G) hv hw g1 (show b i - 48 < 6 by omega) g4
              rw [← e] at h
              exact ⟨_, h, SV_shed hv hl, ((Ag.rf.sI rfl).sI rfl).sI rfl⟩
            · cases hs
        obtain ⟨S2, hc, hv2, ha2⟩ := call
        obtain ⟨SE, ft, N, k, r1, r2, r3⟩ := ih (i + 1) q' S2 (by omega) hp' hv2 ((ha2.2 4 5 rfl).trans h5) ((ha2.2 4 3 rfl).trans h3) (fun j hj => by rw [ha2.2 5 j (by rfl)]; exact hb1 j hj)
        refine ⟨SE, ft, N, ?_, r1, r2, (ha2.mono (fun a b h => ?_)).tr r3⟩
        · refine V_il1 d_X4_reread_33 ?_
          refine V_al0 d_X4_reread_34 ?_
          refine V_getIe d_X4_reread_35 rfl rfl (by decide) (h3) ?_
          refine U_ic_geN d_X4_reread_38 (by omega) (by omega) (fun q => absurd q (by omega)) (fun h38 => ?_)
          refine V_al0 d_X4_reread_41 ?_
          refine V_getIe d_X4_reread_42 rfl rfl (by decide) (h5) ?_
          refine V_ki d_X4_reread_45 ?_
          refine V_ic_ne d_X4_reread_46 (fun q => absurd rfl q) (fun h46 => ?_)
          refine V_al0 d_X4_reread_49 ?_
          refine V_al0 d_X4_reread_50 ?_
          refine V_getR d_X4_reread_51 rfl rfl (by decide) rfl ?_
          refine V_il1 d_X4_reread_54 ?_
          refine U_cs2 d_X4_reread_55 (c_X8_item (j := i) rfl (by decide) rfl (by omega)) rfl ?_
          refine V_topi hbi.1 ?_
          refine U_cv1 d_X4_reread_58 (hc) rfl rfl rfl ?_
          refine V_neB d_X4_reread_61 (fun h61 => ?_) (fun q => (bTF rfl q).elim)
          refine V_icN1 d_X4_reread_69 rfl ?_
          refine V_goto d_X4_reread_72 ?_
          exact k
        · simp only [PN] at h
          revert h
          cases (a == 4) <;> cases (b == 4) <;> cases (b == 5) <;> cases (b == 6) <;> cases (b == 7) <;> cases (a == 6) <;> cases (a == 7) <;> simp
      | none =>
        have hc := c_goes_no (G := G) hv hw hbi.2 hs
        refine ⟨_, nI i, [], ?_, Or.inl ⟨i, q, by omega, hp, hs, rfl, rfl⟩, ⟨rfl, rfl, fun n hn => absurd hn (Nat.not_lt_zero _), fun n hn => absurd hn (Nat.not_lt_zero _)⟩, ((Ag.rf (P := PN) (S := S1)).sI (k := 4) (j := 5) (v := nI i) rfl).sI (k := 4) (j := 4) (v := nI 0) rfl⟩
        have tail := t1 (sI S1 4 5 (nI i)) i (some (.int (nI (i + 1)))) (by omega) rfl h3
        have head : U G M_X4_reread (Ze G none (sI (sI S1 4 5 (nI i)) 4 4 (nI 0))) 33 [some (.ref (gB G + 4)), some (.int (nI (i + 1)))] [] (sI S1 4 5 (nI i)) := by
          refine V_il1 d_X4_reread_33 ?_
          refine V_al0 d_X4_reread_34 ?_
          refine V_getIe d_X4_reread_35 rfl rfl (by decide) (h3) ?_
          refine U_ic_geN d_X4_reread_38 (by omega) (by omega) (fun h38 => ?_) (fun h38 => ?_)
          · exact tail
          · refine V_al0 d_X4_reread_41 ?_
            refine V_getIe d_X4_reread_42 rfl rfl (by decide) ((show _ = nI i from rfl)) ?_
            refine V_ki d_X4_reread_45 ?_
            refine V_ic_ne d_X4_reread_46 (fun h46 => ?_) (fun q => (nI_m1 (by omega) q).elim)
            exact tail
        refine V_il1 d_X4_reread_33 ?_
        refine V_al0 d_X4_reread_34 ?_
        refine V_getIe d_X4_reread_35 rfl rfl (by decide) (h3) ?_
        refine U_ic_geN d_X4_reread_38 (by omega) (by omega) (fun q => absurd q (by omega)) (fun h38 => ?_)
        refine V_al0 d_X4_reread_41 ?_
        refine V_getIe d_X4_reread_42 rfl rfl (by decide) (h5) ?_
        refine V_ki d_X4_reread_45 ?_
        refine V_ic_ne d_X4_reread_46 (fun q => absurd rfl q) (fun h46 => ?_)
        refine V_al0 d_X4_reread_49 ?_
        refine V_al0 d_X4_reread_50 ?_
        refine V_getR d_X4_reread_51 rfl rfl (by decide) rfl ?_
        refine V_il1 d_X4_reread_54 ?_
        refine U_cs2 d_X4_reread_55 (c_X8_item (j := i) rfl (by decide) rfl (by omega)) rfl ?_
        refine V_topi hbi.1 ?_
        refine U_cv1 d_X4_reread_58 (hc) rfl rfl rfl ?_
        refine V_neB d_X4_reread_61 (fun q => (bTF q rfl).elim) (fun h61 => ?_)
        refine V_al0 d_X4_reread_64 ?_
        refine V_il1 d_X4_reread_65 ?_
        refine V_putI d_X4_reread_66 rfl rfl (by decide) rfl ?_
        refine V_icN1 d_X4_reread_69 rfl ?_
        refine V_goto d_X4_reread_72 ?_
        exact head
  obtain ⟨SE, ft, N, k, r1, r2, r3⟩ := loop sz 0 ([], []) _ (by omega) rfl (SV_0 S) rfl hsz (fun i hi => hb i hi)
  refine ⟨SE, ft, N, ?_, r1, r2, ?_⟩
  · refine Rn_of hp_X4_reread [some (.ref (gB G + 4)), none] rfl (Nat.le_of_ble_eq_true rfl) (Nat.le_of_ble_eq_true rfl) ?_
    refine V_al0 d_X4_reread_0 ?_
    refine V_ki d_X4_reread_1 ?_
    refine V_putI d_X4_reread_2 rfl rfl (by decide) rfl ?_
    refine V_al0 d_X4_reread_5 ?_
    refine V_ki d_X4_reread_6 ?_
    refine V_putI d_X4_reread_7 rfl rfl (by decide) rfl ?_
    refine V_al0 d_X4_reread_10 ?_
    refine V_ki d_X4_reread_11 ?_
    refine V_putI d_X4_reread_12 rfl rfl (by decide) rfl ?_
    refine V_al0 d_X4_reread_15 ?_
    refine V_getR d_X4_reread_16 rfl rfl (by decide) rfl ?_
    refine V_ki d_X4_reread_19 ?_
    refine U_cs2v d_X4_reread_20 (c_X8_fill (len := 8) rfl (by decide)) rfl ?_
    refine V_al0 d_X4_reread_23 ?_
    refine V_getR d_X4_reread_24 rfl rfl (by decide) rfl ?_
    refine V_ki d_X4_reread_27 ?_
    refine U_cs2v d_X4_reread_28 (c_X8_fill (len := 48) rfl (by decide)) rfl ?_
    refine V_ki d_X4_reread_31 ?_
    refine V_is1 d_X4_reread_32 rfl ?_
    exact k
  · refine Ag.tr ?_ r3
    exact ((((Ag.rf.sI rfl).sI rfl).sI rfl).fill (fun j _ => by simp [PN])).fill (fun j _ => by simp [PN])
