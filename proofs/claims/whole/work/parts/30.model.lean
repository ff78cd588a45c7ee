/-! the reference: scanning -/
def MTv (S : AS) (b : Nat → Nat) (sz : Nat) : Prop := S.1 22 1 = nI sz ∧ ∀ i, i < sz → S.1 23 i = nI (b i)
def MNv (S : AS) (N : List (List Nat)) : Prop := S.1 22 2 = nI N.length ∧ (∀ n, n < N.length → S.1 25 n = nI (ni N n).length) ∧ ∀ n, n < N.length → ∀ j, j < (ni N n).length → S.1 24 (6 * n + j) = sh (ni N n) j
def HVm (S : AS) (w wy : Nat → Nat) (lk nd : Nat) : Prop := (∀ i, i < 6 → S.1 26 i = nI (w i)) ∧ (∀ i, i < 36 → S.1 27 i = nI (wy i)) ∧ S.1 22 7 = nI lk ∧ S.1 22 8 = nI nd
def TXT (b : Nat → Nat) (sz : Nat) (ft : Int32) (N : List (List Nat)) : Prop := sz ≤ 60 ∧ (∀ i, i < sz → b i < 256) ∧ PR b sz ft N
def PM (a b : Nat) : Bool := (a == 22 && b == 2) || a == 24 || a == 25
theorem MTv.ag {P : Nat → Nat → Bool} {S S' : AS} {b : Nat → Nat} {sz : Nat} (h : Ag P S S') (hv : MTv S b sz) (h1 : P 22 1 = false) (h2 : ∀ i, P 23 i = false) : MTv S' b sz :=
  ⟨(h.2 22 1 h1).trans hv.1, fun i hi => (h.2 23 i (h2 i)).trans (hv.2 i hi)⟩
theorem MNv.ag {P : Nat → Nat → Bool} {S S' : AS} {N : List (List Nat)} (h : Ag P S S') (hv : MNv S N) (h1 : P 22 2 = false) (h2 : ∀ i, P 24 i = false) (h3 : ∀ i, P 25 i = false) : MNv S' N :=
  ⟨(h.2 22 2 h1).trans hv.1, fun n hn => (h.2 25 n (h3 n)).trans (hv.2.1 n hn), fun n hn j hj => (h.2 24 _ (h2 _)).trans (hv.2.2 n hn j hj)⟩
theorem HVm.ag {P : Nat → Nat → Bool} {S S' : AS} {w wy : Nat → Nat} {lk nd : Nat} (h : Ag P S S') (hv : HVm S w wy lk nd) (h1 : ∀ b, P 26 b = false) (h2 : ∀ b, P 27 b = false) (h3 : P 22 7 = false) (h4 : P 22 8 = false) : HVm S' w wy lk nd :=
  ⟨fun i hi => (h.2 26 i (h1 i)).trans (hv.1 i hi), fun i hi => (h.2 27 i (h2 i)).trans (hv.2.1 i hi), (h.2 22 7 h3).trans hv.2.2.1, (h.2 22 8 h4).trans hv.2.2.2⟩
set_option maxRecDepth 100000 in
theorem c_X9_in {G : Gm} {S : AS} {v lo hi : Int32} : Rm G M_X9_in [.int v, .int lo, .int hi] S (some (.int (bI (inR v lo hi)))) S := by
  refine Rn_of hp_X9_in [some (.int v), some (.int lo), some (.int hi)] rfl (Nat.le_of_ble_eq_true rfl) (Nat.le_of_ble_eq_true rfl) ?_
  refine V_il0 d_X9_in_0 ?_
  refine V_il1 d_X9_in_1 ?_
  refine V_ic_lt d_X9_in_2 (fun h2 => ?_) (fun h2 => ?_)
  · refine V_ki d_X9_in_14 ?_
    exact V_zret d_X9_in_15 rfl rfl (by first | rw [bI_t (inR_t (by assumption) (by assumption))] | rw [bI_f (inR_f1 (by assumption))] | rw [bI_f (inR_f2 (by assumption))]) rfl
  · refine V_il0 d_X9_in_5 ?_
    refine V_il2 d_X9_in_6 ?_
    refine V_ic_gt d_X9_in_7 (fun h7 => ?_) (fun h7 => ?_)
    · refine V_ki d_X9_in_14 ?_
      exact V_zret d_X9_in_15 rfl rfl (by first | rw [bI_t (inR_t (by assumption) (by assumption))] | rw [bI_f (inR_f1 (by assumption))] | rw [bI_f (inR_f2 (by assumption))]) rfl
    · refine V_ki d_X9_in_10 ?_
      refine V_goto d_X9_in_11 ?_
      exact V_zret d_X9_in_15 rfl rfl (by first | rw [bI_t (inR_t (by assumption) (by assumption))] | rw [bI_f (inR_f1 (by assumption))] | rw [bI_f (inR_f2 (by assumption))]) rfl
theorem c_X9_no {G : Gm} {S : AS} {v : Int32} : Rm G M_X9_no [.int v] S (some (.long ((-9223372036854775808 : Int64) - v.toInt64))) S := by
  refine Rn_of hp_X9_no [some (.int v)] rfl (Nat.le_of_ble_eq_true rfl) (Nat.le_of_ble_eq_true rfl) ?_
  refine V_ldc2 d_X9_no_0 ?_
  refine V_il0 d_X9_no_3 ?_
  refine V_i2l d_X9_no_4 rfl ?_
  refine V_lsub d_X9_no_5 ?_
  exact V_lret d_X9_no_6 rfl (by first | rfl | simp_all) rfl
theorem c_X9_isShed {G : Gm} {S : AS} {v : Int32} : Rm G M_X9_isShed [.int v] S (some (.int (bI (inR v (nI 0) (nI 5))))) S := by
  refine Rn_of hp_X9_isShed [some (.int v)] rfl (Nat.le_of_ble_eq_true rfl) (Nat.le_of_ble_eq_true rfl) ?_
  refine V_il0 d_X9_isShed_0 ?_
  refine V_ki d_X9_isShed_1 ?_
  refine V_ki d_X9_isShed_2 ?_
  refine U_cs3 d_X9_isShed_3 (c_X9_in) rfl ?_
  exact V_zret d_X9_isShed_6 rfl (bI_nar _) (by first | rfl | simp_all) rfl
theorem c_X9_isSheet {G : Gm} {S : AS} {v : Int32} : Rm G M_X9_isSheet [.int v] S (some (.int (bI (inR v (nI 0) (nI 3))))) S := by
  refine Rn_of hp_X9_isSheet [some (.int v)] rfl (Nat.le_of_ble_eq_true rfl) (Nat.le_of_ble_eq_true rfl) ?_
  refine V_il0 d_X9_isSheet_0 ?_
  refine V_ki d_X9_isSheet_1 ?_
  refine V_ki d_X9_isSheet_2 ?_
  refine U_cs3 d_X9_isSheet_3 (c_X9_in) rfl ?_
  exact V_zret d_X9_isSheet_6 rfl (bI_nar _) (by first | rfl | simp_all) rfl
def shA (b : Nat → Nat) (sz k : Nat) : Int32 := if k < sz ∧ 48 ≤ b k ∧ b k < 54 then nI (b k - 48) else -1
set_option maxRecDepth 100000 in
theorem c_X9_shedAt {G : Gm} {S : AS} {b : Nat → Nat} {sz k : Nat} (hv : MTv S b sz) (h60 : sz ≤ 60) (hb : ∀ i, i < sz → b i < 256) (hk : k < 1000) : Rm G M_X9_shedAt [.ref (gB G + 22), .int (nI k)] S (some (.int (shA b sz k))) S := by
  refine Rn_of hp_X9_shedAt [some (.ref (gB G + 22)), some (.int (nI k)), none] rfl (Nat.le_of_ble_eq_true rfl) (Nat.le_of_ble_eq_true rfl) ?_
  by_cases h : k < sz
  · have hbk := hb k h
    by_cases h2 : 48 ≤ b k ∧ b k < 54
    · have e : shA b sz k = nI (b k - 48) := if_pos ⟨h, h2⟩
      rw [e]
      refine V_il1 d_X9_shedAt_0 ?_
      refine V_al0 d_X9_shedAt_1 ?_
      refine V_getIe d_X9_shedAt_2 rfl rfl (by decide) (hv.1) ?_
      refine U_ic_geN d_X9_shedAt_5 (by omega) (by omega) (fun q => absurd q (by omega)) (fun h5 => ?_)
      refine V_al0 d_X9_shedAt_8 ?_
      refine V_getR d_X9_shedAt_9 rfl rfl (by decide) rfl ?_
      refine V_il1 d_X9_shedAt_12 ?_
      refine V_ialdE d_X9_shedAt_13 rfl (by decide) rfl (show k < 60 by omega) (hv.2 k h) ?_
      refine V_ki d_X9_shedAt_14 ?_
      refine V_isubN d_X9_shedAt_16 (h2.1) ?_
      refine V_goto d_X9_shedAt_17 ?_
      refine V_is2 d_X9_shedAt_21 rfl ?_
      refine V_il2 d_X9_shedAt_22 ?_
      refine V_ki d_X9_shedAt_23 ?_
      refine V_ki d_X9_shedAt_24 ?_
      refine U_cs3 d_X9_shedAt_25 (c_X9_in) rfl ?_
      refine V_eqB d_X9_shedAt_28 (fun q => (bTF (inR_T (by omega) (by decide)) q).elim) (fun h28 => ?_)
      refine V_il2 d_X9_shedAt_31 ?_
      refine V_goto d_X9_shedAt_32 ?_
      exact V_iret d_X9_shedAt_36 rfl (by first | rfl | simp_all) rfl
    · have e : shA b sz k = -1 := if_neg (fun z => h2 z.2)
      rw [e]
      have hns : inR (nI (b k) - nI 48) (nI 0) (nI 5) = false := by
        rcases Nat.lt_or_ge (b k) 48 with g | g
        · exact inR_f1 (pk_sneg (by decide) g)
        · rw [pk_sub g]; exact inR_F (by omega) (by omega)
      refine V_il1 d_X9_shedAt_0 ?_
      refine V_al0 d_X9_shedAt_1 ?_
      refine V_getIe d_X9_shedAt_2 rfl rfl (by decide) (hv.1) ?_
      refine U_ic_geN d_X9_shedAt_5 (by omega) (by omega) (fun q => absurd q (by omega)) (fun h5 => ?_)
      refine V_al0 d_X9_shedAt_8 ?_
      refine V_getR d_X9_shedAt_9 rfl rfl (by decide) rfl ?_
      refine V_il1 d_X9_shedAt_12 ?_
      refine V_ialdE d_X9_shedAt_13 rfl (by decide) rfl (show k < 60 by omega) (hv.2 k h) ?_
      refine V_ki d_X9_shedAt_14 ?_
      refine V_isub d_X9_shedAt_16 ?_
      refine V_goto d_X9_shedAt_17 ?_
      refine V_is2 d_X9_shedAt_21 rfl ?_
      refine V_il2 d_X9_shedAt_22 ?_
      refine V_ki d_X9_shedAt_23 ?_
      refine V_ki d_X9_shedAt_24 ?_
      refine U_cs3 d_X9_shedAt_25 (c_X9_in) rfl ?_
      refine V_eqB d_X9_shedAt_28 (fun h28 => ?_) (fun q => (bTF q hns).elim)
      refine V_ki d_X9_shedAt_35 ?_
      exact V_iret d_X9_shedAt_36 rfl (by first | rfl | simp_all) rfl
  · have e : shA b sz k = -1 := if_neg (fun z => h z.1)
    rw [e]
    refine V_il1 d_X9_shedAt_0 ?_
    refine V_al0 d_X9_shedAt_1 ?_
    refine V_getIe d_X9_shedAt_2 rfl rfl (by decide) (hv.1) ?_
    refine U_ic_geN d_X9_shedAt_5 (by omega) (by omega) (fun h5 => ?_) (fun q => absurd q (by omega))
    refine V_ki d_X9_shedAt_20 ?_
    refine V_is2 d_X9_shedAt_21 rfl ?_
    refine V_il2 d_X9_shedAt_22 ?_
    refine V_ki d_X9_shedAt_23 ?_
    refine V_ki d_X9_shedAt_24 ?_
    refine U_cs3 d_X9_shedAt_25 (c_X9_in) rfl ?_
    refine V_eqB d_X9_shedAt_28 (fun h28 => ?_) (fun q => (bTF q (by decide)).elim)
    refine V_ki d_X9_shedAt_35 ?_
    exact V_iret d_X9_shedAt_36 rfl (by first | rfl | simp_all) rfl
theorem shA_m1 {b : Nat → Nat} {sz k : Nat} (hb : ∀ i, i < sz → b i < 256) : shA b sz k = -1 ↔ ¬ (k < sz ∧ 48 ≤ b k ∧ b k < 54) := by
  unfold shA
  by_cases h : k < sz ∧ 48 ≤ b k ∧ b k < 54
  · rw [if_pos h]
    have := hb k h.1
    exact ⟨fun q => absurd q (nI_m1 (by omega)), fun q => absurd h q⟩
  · rw [if_neg h]
    exact ⟨fun _ => h, fun _ => rfl⟩
/-- what the reference has laid down while it scans -/
def RVm (S : AS) (ns : List (List Nat)) (cur : List Nat) : Prop := S.1 22 2 = nI 0 ∧ (∀ n, n < ns.length → S.1 25 n = nI (ni ns n).length) ∧ (∀ n, n < ns.length → ∀ j, j < (ni ns n).length → S.1 24 (6 * n + j) = sh (ni ns n) j) ∧ ∀ j, j < cur.length → S.1 24 (6 * ns.length + j) = sh cur j
theorem ni_app {ns : List (List Nat)} {w : List Nat} {n : Nat} (h : n < ns.length) : ni (ns ++ [w]) n = ni ns n := by
  simp only [ni, List.getD_eq_getElem?_getD, List.getElem?_append]
  rw [if_pos h]
set_option maxRecDepth 100000 in
theorem c_X9_faultNow {G : Gm} {S : AS} {b : Nat → Nat} {sz : Nat} {ft : Int32} {N : List (List Nat)} (hv : MTv S b sz) (hx : TXT b sz ft N) : ∃ SE, Rm G M_X9_faultNow [.ref (gB G + 22)] S (some (.int ft)) SE ∧ MNv SE N ∧ Ag PM S SE := by
  obtain ⟨h60, hb, hPR⟩ := hx
  have nil_ok : ∀ (S1 : AS) (k : Int32), S1.1 22 2 = nI 0 → PR b sz k [] → k = ft ∧ MNv S1 N := by
    intro S1 k hr hp
    obtain ⟨e1, e2⟩ := PR_uniq hp hPR
    subst e2
    exact ⟨e1, hr, fun n hn => absurd hn (Nat.not_lt_zero _), fun n hn => absurd hn (Nat.not_lt_zero _)⟩
  have PRat : ∀ (k : Nat) (ns : List (List Nat)), pfold b k = some (ns, []) → k ≤ sz → 0 < sz → (ns.length = 8 ∨ shA b sz k = -1) → PR b sz (nI k) [] := by
    intro k ns hp hk h0 hc
    rcases Nat.lt_or_eq_of_le hk with g | g
    · refine Or.inl ⟨k, (ns, []), g, hp, ?_, rfl, rfl⟩
      unfold pstep
      rw [if_neg (fun z => z.2 rfl), if_neg]
      intro z
      rcases hc with hc | hc
      · have := z.1
        rw [hc] at this
        omega
      · exact (shA_m1 hb).mp hc ⟨g, z.2.1, z.2.2.1⟩
    · subst g
      exact Or.inr ⟨(ns, []), hp, Or.inr (Or.inl ⟨h0, rfl, rfl, rfl⟩)⟩
  have key : ∀ (d at0 : Nat) (ns : List (List Nat)) (cur : List Nat) (S1 : AS), at0 + d = sz → pfold b at0 = some (ns, cur) → ns.length < 8 → (cur = [] → shA b sz at0 ≠ -1) → RVm S1 ns cur → Ag PM S S1 →
      ∃ SE, U G M_X9_faultNow (Ze G (some (.int ft)) SE) 43 [some (.ref (gB G + 22)), some (.int (nI ns.length)), some (.int (nI at0)), some (.int (nI cur.length)), some (.int (nI (msk cur)))] [] S1 ∧ MNv SE N ∧ Ag PM S SE := by
    intro d
    induction d with
    | zero =>
      intro at0 ns cur S1 hat hp hn8 hcur hr hA
      rw [Nat.add_zero] at hat
      subst hat
      have hw := WFq_fold hp
      have e : shA b at0 at0 = -1 := (shA_m1 hb).mpr (fun z => absurd z.1 (Nat.lt_irrefl _))
      have hne : cur ≠ [] := fun z => hcur z e
      have h0 : 0 < at0 := by
        rcases Nat.eq_zero_or_pos at0 with g | g
        · subst g; cases hp; exact absurd rfl hne
        · exact g
      have hv1 := hv.ag hA rfl (fun _ => rfl)
      obtain ⟨e1, e2⟩ := PR_uniq (Or.inr ⟨(ns, cur), hp, Or.inr (Or.inr ⟨h0, hne, rfl, rfl⟩)⟩) hPR
      subst e1; subst e2
      have hsh := c_X9_shedAt (G := G) (k := at0) hv1 h60 hb (by omega)
      refine ⟨sI (sI S1 25 ns.length (nI cur.length)) 22 2 (nI (ns.length + 1)), ?_, ⟨?_, fun n hn => ?_, fun n hn j hj => ?_⟩, (hA.sI rfl).sI rfl⟩
      · refine V_al0 d_X9_faultNow_43 ?_
        refine V_il2 d_X9_faultNow_44 ?_
        refine U_cv1 d_X9_faultNow_45 (hsh) rfl rfl rfl ?_
        refine V_ki d_X9_faultNow_48 ?_
        refine V_ic_eq d_X9_faultNow_49 (fun h49 => ?_) (fun q => absurd e q)
        refine V_al0 d_X9_faultNow_105 ?_
        refine V_getR d_X9_faultNow_106 rfl rfl (by decide) rfl ?_
        refine V_il1 d_X9_faultNow_109 ?_
        refine V_il3 d_X9_faultNow_110 ?_
        refine V_iast d_X9_faultNow_111 rfl (by decide) rfl (show ns.length < 9 by omega) ?_
        refine V_icN1 d_X9_faultNow_112 rfl ?_
        refine V_il2 d_X9_faultNow_115 ?_
        refine V_al0 d_X9_faultNow_116 ?_
        refine V_getIe d_X9_faultNow_117 rfl rfl (by decide) (hv1.1) ?_
        refine U_ic_neN d_X9_faultNow_120 (by omega) (by omega) (fun q => absurd rfl q) (fun h120 => ?_)
        refine V_al0 d_X9_faultNow_123 ?_
        refine V_il1 d_X9_faultNow_124 ?_
        refine V_putI d_X9_faultNow_125 rfl rfl (by decide) rfl ?_
        refine V_ki d_X9_faultNow_128 ?_
        exact V_iret d_X9_faultNow_129 rfl (by first | rfl | simp_all) rfl
      · show nI (ns.length + 1) = _
        simp
      · show (if 25 = 25 ∧ n = ns.length then nI cur.length else S1.1 25 n) = _
        by_cases g : n = ns.length
        · subst g; rw [if_pos ⟨rfl, rfl⟩, ni_last]
        · have hlt : n < ns.length := by simp at hn; omega
          rw [if_neg (fun z => g z.2), ni_app hlt]
          exact hr.2.1 n hlt
      · show S1.1 24 (6 * n + j) = _
        by_cases g : n = ns.length
        · subst g
          rw [ni_last] at hj ⊢
          exact hr.2.2.2 j hj
        · have hlt : n < ns.length := by simp at hn; omega
          rw [ni_app hlt] at hj ⊢
          exact hr.2.2.1 n hlt j hj
    | succ d ih =>
      intro at0 ns cur S1 hat hp hn8 hcur hr hA
      have hw := WFq_fold hp
      have hm := msk_lt hw.2.2.1.2
      have hc6 := WFc_len hw.2.2.1
      have hbc := hb at0 (by omega)
      have hv1 := hv.ag hA rfl (fun _ => rfl)
      have hsh := c_X9_shedAt (G := G) (k := at0) hv1 h60 hb (by omega)
      by_cases hdig : 48 ≤ b at0 ∧ b at0 < 54
      · have e : shA b sz at0 = nI (b at0 - 48) := if_pos ⟨by omega, hdig⟩
        rw [e] at hsh
        have hs : b at0 - 48 < 6 := by omega
        by_cases hmem : b at0 - 48 ∈ cur
        · have hno : pstep (ns, cur) (b at0) = none := by
            unfold pstep
            rw [if_neg (fun z => by have := z.1; omega), if_neg (fun z => z.2.2.2 hmem)]
          obtain ⟨e1, e2⟩ := nil_ok S1 (nI at0) hr.1 (Or.inl ⟨at0, (ns, cur), by omega, hp, hno, rfl, rfl⟩)
          refine ⟨S1, ?_, e2, hA⟩
          rw [← e1]
          refine V_al0 d_X9_faultNow_43 ?_
          refine V_il2 d_X9_faultNow_44 ?_
          refine U_cv1 d_X9_faultNow_45 (hsh) rfl rfl rfl ?_
          refine V_ki d_X9_faultNow_48 ?_
          refine V_ic_eq d_X9_faultNow_49 (fun q => (nI_m1 (by omega) q).elim) (fun h49 => ?_)
          refine V_il4 d_X9_faultNow_52 ?_
          refine V_al0 d_X9_faultNow_54 ?_
          refine V_il2 d_X9_faultNow_55 ?_
          refine U_cv1 d_X9_faultNow_56 (hsh) rfl rfl rfl ?_
          refine V_ishr d_X9_faultNow_59 ?_
          refine V_ki d_X9_faultNow_60 ?_
          refine V_iand d_X9_faultNow_61 ?_
          refine V_topi (y := nI 1) (by rw [bit_get _ hm _ hs, msk_bit]; simp [hmem]) ?_
          refine V_ki d_X9_faultNow_62 ?_
          refine U_ic_neN d_X9_faultNow_63 (by omega) (by omega) (fun q => absurd rfl q) (fun h63 => ?_)
          refine V_il2 d_X9_faultNow_66 ?_
          exact V_iret d_X9_faultNow_67 rfl (by first | rfl | simp_all) rfl
        · have hyes : pstep (ns, cur) (b at0) = some (ns, cur ++ [b at0 - 48]) := by
            unfold pstep
            rw [if_neg (fun z => by have := z.1; omega), if_pos ⟨hn8, hdig.1, hdig.2, hmem⟩]
          have hp' : pfold b (at0 + 1) = some (ns, cur ++ [b at0 - 48]) := by rw [pfold, hp]; exact hyes
          have hl : cur.length < 6 := by
            have := WFc_len (WFc_app hw.2.2.1 hs hmem)
            simp at this; omega
          obtain ⟨SE, r1, r2, r3⟩ := ih (at0 + 1) ns (cur ++ [b at0 - 48]) (sI S1 24 (6 * ns.length + cur.length) (nI (b at0 - 48))) (by omega) hp' hn8 (fun z => by simp at z) ⟨hr.1, hr.2.1, fun n hn j hj => by
              have := WFc_len (hw.2.1 (ni ns n) (ni_mem hn)).2
              rw [sI_1, if_neg (fun z => by omega)]
              exact hr.2.2.1 n hn j hj, fun j hj => by
              rw [sI_1, sh_app]
              by_cases g : j = cur.length
              · rw [if_pos ⟨rfl, by omega⟩, if_pos g]
              · rw [if_neg (fun z => g (by omega)), if_neg g]
                exact hr.2.2.2 j (by simp at hj; omega)⟩ (hA.sI rfl)
          rw [List.length_append, msk_app] at r1
          refine ⟨SE, ?_, r2, r3⟩
          refine V_al0 d_X9_faultNow_43 ?_
          refine V_il2 d_X9_faultNow_44 ?_
          refine U_cv1 d_X9_faultNow_45 (hsh) rfl rfl rfl ?_
          refine V_ki d_X9_faultNow_48 ?_
          refine V_ic_eq d_X9_faultNow_49 (fun q => (nI_m1 (by omega) q).elim) (fun h49 => ?_)
          refine V_il4 d_X9_faultNow_52 ?_
          refine V_al0 d_X9_faultNow_54 ?_
          refine V_il2 d_X9_faultNow_55 ?_
          refine U_cv1 d_X9_faultNow_56 (hsh) rfl rfl rfl ?_
          refine V_ishr d_X9_faultNow_59 ?_
          refine V_ki d_X9_faultNow_60 ?_
          refine V_iand d_X9_faultNow_61 ?_
          refine V_topi (y := nI 0) (by rw [bit_get _ hm _ hs, msk_bit]; simp [hmem]) ?_
          refine V_ki d_X9_faultNow_62 ?_
          refine U_ic_neN d_X9_faultNow_63 (by omega) (by omega) (fun h63 => ?_) (fun q => absurd q (by omega))
          refine V_il4 d_X9_faultNow_68 ?_
          refine V_ki d_X9_faultNow_70 ?_
          refine V_al0 d_X9_faultNow_71 ?_
          refine V_il2 d_X9_faultNow_72 ?_
          refine U_cv1 d_X9_faultNow_73 (hsh) rfl rfl rfl ?_
          refine V_ishl d_X9_faultNow_76 ?_
          refine V_ior d_X9_faultNow_77 ?_
          refine V_topi (bit_set _ hm _ hs) ?_
          refine V_is4 d_X9_faultNow_78 rfl ?_
          refine V_al0 d_X9_faultNow_80 ?_
          refine V_getR d_X9_faultNow_81 rfl rfl (by decide) rfl ?_
          refine V_ki d_X9_faultNow_84 ?_
          refine V_il1 d_X9_faultNow_86 ?_
          first | with_reducible refine V_imulN d_X9_faultNow_87 ?_ | refine V_imul d_X9_faultNow_87 ?_
          refine V_il3 d_X9_faultNow_88 ?_
          first | with_reducible refine V_iaddN d_X9_faultNow_89 ?_ | refine V_iadd d_X9_faultNow_89 ?_
          refine V_al0 d_X9_faultNow_90 ?_
          refine V_il2 d_X9_faultNow_91 ?_
          refine U_cv1 d_X9_faultNow_92 (hsh) rfl rfl rfl ?_
          refine V_iast d_X9_faultNow_95 rfl (by decide) rfl (show 6 * ns.length + cur.length < 54 by omega) ?_
          refine V_icN3 d_X9_faultNow_96 rfl ?_
          refine V_icN2 d_X9_faultNow_99 rfl ?_
          refine V_goto d_X9_faultNow_102 ?_
          exact r1
      · have e : shA b sz at0 = -1 := (shA_m1 hb).mpr (fun z => hdig z.2)
        have hne : cur ≠ [] := fun z => hcur z e
        have ha2 : Ag PM S (sI S1 25 ns.length (nI cur.length)) := hA.sI rfl
        have hv2 := hv.ag ha2 rfl (fun _ => rfl)
        by_cases h59 : b at0 = 59
        · have hyes : pstep (ns, cur) (b at0) = some (ns ++ [cur], []) := by
            unfold pstep
            rw [if_pos ⟨h59, hne⟩]
          have hp' : pfold b (at0 + 1) = some (ns ++ [cur], []) := by rw [pfold, hp]; exact hyes
          have hlen : (ns ++ [cur]).length = ns.length + 1 := by simp
          have hr2 : RVm (sI S1 25 ns.length (nI cur.length)) (ns ++ [cur]) [] := by
            refine ⟨hr.1, fun n hn => ?_, fun n hn j hj => ?_, fun j hj => absurd hj (Nat.not_lt_zero _)⟩
            · rw [sI_1]
              by_cases g : n = ns.length
              · subst g; rw [if_pos ⟨rfl, rfl⟩, ni_last]
              · have hlt : n < ns.length := by omega
                rw [if_neg (fun z => g z.2), ni_app hlt]
                exact hr.2.1 n hlt
            · show S1.1 24 (6 * n + j) = _
              by_cases g : n = ns.length
              · subst g
                rw [ni_last] at hj ⊢
                exact hr.2.2.2 j hj
              · have hlt : n < ns.length := by omega
                rw [ni_app hlt] at hj ⊢
                exact hr.2.2.1 n hlt j hj
          have hsh2 := c_X9_shedAt (G := G) (k := at0 + 1) hv2 h60 hb (by omega)
          by_cases hend : (ns ++ [cur]).length = 8 ∨ shA b sz (at0 + 1) = -1
          · obtain ⟨e1, e2⟩ := nil_ok (sI S1 25 ns.length (nI cur.length)) (nI (at0 + 1)) hr.1 (PRat (at0 + 1) _ hp' (by omega) (by omega) hend)
            refine ⟨sI S1 25 ns.length (nI cur.length), ?_, e2, ha2⟩
            rw [← e1]
            rw [hlen] at hend
            refine V_al0 d_X9_faultNow_43 ?_
            refine V_il2 d_X9_faultNow_44 ?_
            refine U_cv1 d_X9_faultNow_45 (hsh) rfl rfl rfl ?_
            refine V_ki d_X9_faultNow_48 ?_
            refine V_ic_eq d_X9_faultNow_49 (fun h49 => ?_) (fun q => absurd e q)
            refine V_al0 d_X9_faultNow_105 ?_
            refine V_getR d_X9_faultNow_106 rfl rfl (by decide) rfl ?_
            refine V_il1 d_X9_faultNow_109 ?_
            refine V_il3 d_X9_faultNow_110 ?_
            refine V_iast d_X9_faultNow_111 rfl (by decide) rfl (show ns.length < 9 by omega) ?_
            refine V_icN1 d_X9_faultNow_112 rfl ?_
            refine V_il2 d_X9_faultNow_115 ?_
            refine V_al0 d_X9_faultNow_116 ?_
            refine V_getIe d_X9_faultNow_117 rfl rfl (by decide) (hv1.1) ?_
            refine U_ic_neN d_X9_faultNow_120 (by omega) (by omega) (fun h120 => ?_) (fun q => absurd q (by omega))
            refine V_al0 d_X9_faultNow_130 ?_
            refine V_getR d_X9_faultNow_131 rfl rfl (by decide) rfl ?_
            refine V_il2 d_X9_faultNow_134 ?_
            refine V_ialdE d_X9_faultNow_135 rfl (by decide) rfl (show at0 < 60 by omega) (hv2.2 at0 (by omega)) ?_
            refine V_ki d_X9_faultNow_136 ?_
            refine U_ic_eqN d_X9_faultNow_138 (by omega) (by omega) (fun h138 => ?_) (fun q => absurd h59 q)
            refine V_icN2 d_X9_faultNow_143 rfl ?_
            refine V_goto d_X9_faultNow_146 ?_
            refine V_il2 d_X9_faultNow_9 ?_
            refine V_al0 d_X9_faultNow_10 ?_
            refine V_getIe d_X9_faultNow_11 rfl rfl (by decide) (hv1.1) ?_
            refine U_ic_ltN d_X9_faultNow_14 (by omega) (by omega) (fun h14 => ?_) (fun h14 => ?_)
            · refine V_il1 d_X9_faultNow_21 ?_
              refine V_ki d_X9_faultNow_22 ?_
              refine U_ic_eqN d_X9_faultNow_24 (by omega) (by omega) (fun h24 => ?_) (fun h24 => ?_)
              · refine V_il2 d_X9_faultNow_36 ?_
                exact V_iret d_X9_faultNow_37 rfl (by first | rfl | simp_all) rfl
              · refine V_al0 d_X9_faultNow_27 ?_
                refine V_il2 d_X9_faultNow_28 ?_
                refine U_cv1 d_X9_faultNow_29 (hsh2) rfl rfl rfl ?_
                refine V_ki d_X9_faultNow_32 ?_
                refine V_ic_ne d_X9_faultNow_33 (fun h33 => ?_) (fun h33 => ?_)
                · exact (hend.elim h24 h33).elim
                · refine V_il2 d_X9_faultNow_36 ?_
                  exact V_iret d_X9_faultNow_37 rfl (by first | rfl | simp_all) rfl
            · refine V_il2 d_X9_faultNow_17 ?_
              refine U_if_leN d_X9_faultNow_18 (by omega) (fun q => absurd q (by omega)) (fun h18 => ?_)
              refine V_il1 d_X9_faultNow_21 ?_
              refine V_ki d_X9_faultNow_22 ?_
              refine U_ic_eqN d_X9_faultNow_24 (by omega) (by omega) (fun h24 => ?_) (fun h24 => ?_)
              · refine V_il2 d_X9_faultNow_36 ?_
                exact V_iret d_X9_faultNow_37 rfl (by first | rfl | simp_all) rfl
              · refine V_al0 d_X9_faultNow_27 ?_
                refine V_il2 d_X9_faultNow_28 ?_
                refine U_cv1 d_X9_faultNow_29 (hsh2) rfl rfl rfl ?_
                refine V_ki d_X9_faultNow_32 ?_
                refine V_ic_ne d_X9_faultNow_33 (fun h33 => ?_) (fun h33 => ?_)
                · exact (hend.elim h24 h33).elim
                · refine V_il2 d_X9_faultNow_36 ?_
                  exact V_iret d_X9_faultNow_37 rfl (by first | rfl | simp_all) rfl
          · obtain ⟨SE, r1, r2, r3⟩ := ih (at0 + 1) (ns ++ [cur]) [] (sI S1 25 ns.length (nI cur.length)) (by omega) hp' (by rw [hlen]; omega) (fun _ z => hend (Or.inr z)) hr2 ha2
            rw [hlen] at r1 hend
            refine ⟨SE, ?_, r2, r3⟩
            refine V_al0 d_X9_faultNow_43 ?_
            refine V_il2 d_X9_faultNow_44 ?_
            refine U_cv1 d_X9_faultNow_45 (hsh) rfl rfl rfl ?_
            refine V_ki d_X9_faultNow_48 ?_
            refine V_ic_eq d_X9_faultNow_49 (fun h49 => ?_) (fun q => absurd e q)
            refine V_al0 d_X9_faultNow_105 ?_
            refine V_getR d_X9_faultNow_106 rfl rfl (by decide) rfl ?_
            refine V_il1 d_X9_faultNow_109 ?_
            refine V_il3 d_X9_faultNow_110 ?_
            refine V_iast d_X9_faultNow_111 rfl (by decide) rfl (show ns.length < 9 by omega) ?_
            refine V_icN1 d_X9_faultNow_112 rfl ?_
            refine V_il2 d_X9_faultNow_115 ?_
            refine V_al0 d_X9_faultNow_116 ?_
            refine V_getIe d_X9_faultNow_117 rfl rfl (by decide) (hv1.1) ?_
            refine U_ic_neN d_X9_faultNow_120 (by omega) (by omega) (fun h120 => ?_) (fun q => absurd q (by omega))
            refine V_al0 d_X9_faultNow_130 ?_
            refine V_getR d_X9_faultNow_131 rfl rfl (by decide) rfl ?_
            refine V_il2 d_X9_faultNow_134 ?_
            refine V_ialdE d_X9_faultNow_135 rfl (by decide) rfl (show at0 < 60 by omega) (hv2.2 at0 (by omega)) ?_
            refine V_ki d_X9_faultNow_136 ?_
            refine U_ic_eqN d_X9_faultNow_138 (by omega) (by omega) (fun h138 => ?_) (fun q => absurd h59 q)
            refine V_icN2 d_X9_faultNow_143 rfl ?_
            refine V_goto d_X9_faultNow_146 ?_
            refine V_il2 d_X9_faultNow_9 ?_
            refine V_al0 d_X9_faultNow_10 ?_
            refine V_getIe d_X9_faultNow_11 rfl rfl (by decide) (hv1.1) ?_
            refine U_ic_ltN d_X9_faultNow_14 (by omega) (by omega) (fun h14 => ?_) (fun h14 => ?_)
            · refine V_il1 d_X9_faultNow_21 ?_
              refine V_ki d_X9_faultNow_22 ?_
              refine U_ic_eqN d_X9_faultNow_24 (by omega) (by omega) (fun q => absurd (Or.inl q) hend) (fun h24 => ?_)
              refine V_al0 d_X9_faultNow_27 ?_
              refine V_il2 d_X9_faultNow_28 ?_
              refine U_cv1 d_X9_faultNow_29 (hsh2) rfl rfl rfl ?_
              refine V_ki d_X9_faultNow_32 ?_
              refine V_ic_ne d_X9_faultNow_33 (fun h33 => ?_) (fun q => hend (Or.inr q) |>.elim)
              refine V_ki d_X9_faultNow_38 ?_
              refine V_is3 d_X9_faultNow_39 rfl ?_
              refine V_ki d_X9_faultNow_40 ?_
              refine V_is4 d_X9_faultNow_41 rfl ?_
              exact r1
            · refine V_il2 d_X9_faultNow_17 ?_
              refine U_if_leN d_X9_faultNow_18 (by omega) (fun q => absurd q (by omega)) (fun h18 => ?_)
              refine V_il1 d_X9_faultNow_21 ?_
              refine V_ki d_X9_faultNow_22 ?_
              refine U_ic_eqN d_X9_faultNow_24 (by omega) (by omega) (fun q => absurd (Or.inl q) hend) (fun h24 => ?_)
              refine V_al0 d_X9_faultNow_27 ?_
              refine V_il2 d_X9_faultNow_28 ?_
              refine U_cv1 d_X9_faultNow_29 (hsh2) rfl rfl rfl ?_
              refine V_ki d_X9_faultNow_32 ?_
              refine V_ic_ne d_X9_faultNow_33 (fun h33 => ?_) (fun q => hend (Or.inr q) |>.elim)
              refine V_ki d_X9_faultNow_38 ?_
              refine V_is3 d_X9_faultNow_39 rfl ?_
              refine V_ki d_X9_faultNow_40 ?_
              refine V_is4 d_X9_faultNow_41 rfl ?_
              exact r1
        · have hno : pstep (ns, cur) (b at0) = none := by
            unfold pstep
            rw [if_neg (fun z => h59 z.1), if_neg (fun z => hdig ⟨z.2.1, z.2.2.1⟩)]
          obtain ⟨e1, e2⟩ := nil_ok (sI S1 25 ns.length (nI cur.length)) (nI at0) hr.1 (Or.inl ⟨at0, (ns, cur), by omega, hp, hno, rfl, rfl⟩)
          refine ⟨sI S1 25 ns.length (nI cur.length), ?_, e2, ha2⟩
          rw [← e1]
          refine V_al0 d_X9_faultNow_43 ?_
          refine V_il2 d_X9_faultNow_44 ?_
          refine U_cv1 d_X9_faultNow_45 (hsh) rfl rfl rfl ?_
          refine V_ki d_X9_faultNow_48 ?_
          refine V_ic_eq d_X9_faultNow_49 (fun h49 => ?_) (fun q => absurd e q)
          refine V_al0 d_X9_faultNow_105 ?_
          refine V_getR d_X9_faultNow_106 rfl rfl (by decide) rfl ?_
          refine V_il1 d_X9_faultNow_109 ?_
          refine V_il3 d_X9_faultNow_110 ?_
          refine V_iast d_X9_faultNow_111 rfl (by decide) rfl (show ns.length < 9 by omega) ?_
          refine V_icN1 d_X9_faultNow_112 rfl ?_
          refine V_il2 d_X9_faultNow_115 ?_
          refine V_al0 d_X9_faultNow_116 ?_
          refine V_getIe d_X9_faultNow_117 rfl rfl (by decide) (hv1.1) ?_
          refine U_ic_neN d_X9_faultNow_120 (by omega) (by omega) (fun h120 => ?_) (fun q => absurd q (by omega))
          refine V_al0 d_X9_faultNow_130 ?_
          refine V_getR d_X9_faultNow_131 rfl rfl (by decide) rfl ?_
          refine V_il2 d_X9_faultNow_134 ?_
          refine V_ialdE d_X9_faultNow_135 rfl (by decide) rfl (show at0 < 60 by omega) (hv2.2 at0 (by omega)) ?_
          refine V_ki d_X9_faultNow_136 ?_
          refine U_ic_eqN d_X9_faultNow_138 (by omega) (by omega) (fun q => absurd q h59) (fun h138 => ?_)
          refine V_il2 d_X9_faultNow_141 ?_
          exact V_iret d_X9_faultNow_142 rfl (by first | rfl | simp_all) rfl
  have ha0 : Ag PM S (sI S 22 2 (nI 0)) := Ag.rf.sI rfl
  have hv0 := hv.ag ha0 rfl (fun _ => rfl)
  have hr0 : RVm (sI S 22 2 (nI 0)) [] [] := ⟨rfl, fun n hn => absurd hn (Nat.not_lt_zero _), fun n hn => absurd hn (Nat.not_lt_zero _), fun j hj => absurd hj (Nat.not_lt_zero _)⟩
  have hsh := c_X9_shedAt (G := G) (k := 0) hv0 h60 hb (by omega)
  rcases Nat.eq_zero_or_pos sz with h0 | h0
  · obtain ⟨e1, e2⟩ := nil_ok (sI S 22 2 (nI 0)) (-1) rfl (Or.inr ⟨([], []), by rw [h0]; rfl, Or.inl ⟨h0, rfl, rfl⟩⟩)
    refine ⟨sI S 22 2 (nI 0), ?_, e2, ha0⟩
    rw [← e1]
    refine Rn_of hp_X9_faultNow [some (.ref (gB G + 22)), none, none, none, none] rfl (Nat.le_of_ble_eq_true rfl) (Nat.le_of_ble_eq_true rfl) ?_
    refine V_al0 d_X9_faultNow_0 ?_
    refine V_ki d_X9_faultNow_1 ?_
    refine V_putI d_X9_faultNow_2 rfl rfl (by decide) rfl ?_
    refine V_ki d_X9_faultNow_5 ?_
    refine V_is1 d_X9_faultNow_6 rfl ?_
    refine V_ki d_X9_faultNow_7 ?_
    refine V_is2 d_X9_faultNow_8 rfl ?_
    refine V_il2 d_X9_faultNow_9 ?_
    refine V_al0 d_X9_faultNow_10 ?_
    refine V_getIe d_X9_faultNow_11 rfl rfl (by decide) (hv0.1) ?_
    refine U_ic_ltN d_X9_faultNow_14 (by omega) (by omega) (fun q => absurd q (by omega)) (fun h14 => ?_)
    refine V_il2 d_X9_faultNow_17 ?_
    refine U_if_leN d_X9_faultNow_18 (by omega) (fun h18 => ?_) (fun q => absurd q (by omega))
    refine V_ki d_X9_faultNow_149 ?_
    exact V_iret d_X9_faultNow_150 rfl (by first | rfl | simp_all) rfl
  · by_cases hend : shA b sz 0 = -1
    · obtain ⟨e1, e2⟩ := nil_ok (sI S 22 2 (nI 0)) (nI 0) rfl (PRat 0 [] rfl (by omega) h0 (Or.inr hend))
      refine ⟨sI S 22 2 (nI 0), ?_, e2, ha0⟩
      rw [← e1]
      refine Rn_of hp_X9_faultNow [some (.ref (gB G + 22)), none, none, none, none] rfl (Nat.le_of_ble_eq_true rfl) (Nat.le_of_ble_eq_true rfl) ?_
      refine V_al0 d_X9_faultNow_0 ?_
      refine V_ki d_X9_faultNow_1 ?_
      refine V_putI d_X9_faultNow_2 rfl rfl (by decide) rfl ?_
      refine V_ki d_X9_faultNow_5 ?_
      refine V_is1 d_X9_faultNow_6 rfl ?_
      refine V_ki d_X9_faultNow_7 ?_
      refine V_is2 d_X9_faultNow_8 rfl ?_
      refine V_il2 d_X9_faultNow_9 ?_
      refine V_al0 d_X9_faultNow_10 ?_
      refine V_getIe d_X9_faultNow_11 rfl rfl (by decide) (hv0.1) ?_
      refine U_ic_ltN d_X9_faultNow_14 (by omega) (by omega) (fun h14 => ?_) (fun q => absurd q (by omega))
      refine V_il1 d_X9_faultNow_21 ?_
      refine V_ki d_X9_faultNow_22 ?_
      refine U_ic_eqN d_X9_faultNow_24 (by omega) (by omega) (fun q => absurd q (by omega)) (fun h24 => ?_)
      refine V_al0 d_X9_faultNow_27 ?_
      refine V_il2 d_X9_faultNow_28 ?_
      refine U_cv1 d_X9_faultNow_29 (hsh) rfl rfl rfl ?_
      refine V_ki d_X9_faultNow_32 ?_
      refine V_ic_ne d_X9_faultNow_33 (fun q => absurd hend q) (fun h33 => ?_)
      refine V_il2 d_X9_faultNow_36 ?_
      exact V_iret d_X9_faultNow_37 rfl (by first | rfl | simp_all) rfl
    · obtain ⟨SE, r1, r2, r3⟩ := key sz 0 [] [] (sI S 22 2 (nI 0)) (Nat.zero_add _) rfl (by decide) (fun _ => hend) hr0 ha0
      refine ⟨SE, ?_, r2, r3⟩
      refine Rn_of hp_X9_faultNow [some (.ref (gB G + 22)), none, none, none, none] rfl (Nat.le_of_ble_eq_true rfl) (Nat.le_of_ble_eq_true rfl) ?_
      refine V_al0 d_X9_faultNow_0 ?_
      refine V_ki d_X9_faultNow_1 ?_
      refine V_putI d_X9_faultNow_2 rfl rfl (by decide) rfl ?_
      refine V_ki d_X9_faultNow_5 ?_
      refine V_is1 d_X9_faultNow_6 rfl ?_
      refine V_ki d_X9_faultNow_7 ?_
      refine V_is2 d_X9_faultNow_8 rfl ?_
      refine V_il2 d_X9_faultNow_9 ?_
      refine V_al0 d_X9_faultNow_10 ?_
      refine V_getIe d_X9_faultNow_11 rfl rfl (by decide) (hv0.1) ?_
      refine U_ic_ltN d_X9_faultNow_14 (by omega) (by omega) (fun h14 => ?_) (fun q => absurd q (by omega))
      refine V_il1 d_X9_faultNow_21 ?_
      refine V_ki d_X9_faultNow_22 ?_
      refine U_ic_eqN d_X9_faultNow_24 (by omega) (by omega) (fun q => absurd q (by omega)) (fun h24 => ?_)
      refine V_al0 d_X9_faultNow_27 ?_
      refine V_il2 d_X9_faultNow_28 ?_
      refine U_cv1 d_X9_faultNow_29 (hsh) rfl rfl rfl ?_
      refine V_ki d_X9_faultNow_32 ?_
      refine V_ic_ne d_X9_faultNow_33 (fun h33 => ?_) (fun q => (hend q).elim)
      refine V_ki d_X9_faultNow_38 ?_
      refine V_is3 d_X9_faultNow_39 rfl ?_
      refine V_ki d_X9_faultNow_40 ?_
      refine V_is4 d_X9_faultNow_41 rfl ?_
      exact r1
theorem tolB_in {v : Int32} {t : Nat} (ht : t ≤ 8) : inR v (nI 0) (nI t - nI 1) = tolB v t := by
  unfold inR tolB
  have e0 : (!decide (v < 0)) = decide (nI 0 ≤ v) := by
    rw [Bool.eq_iff_iff]
    simp only [Bool.not_eq_true', decide_eq_false_iff_not, decide_eq_true_eq]
    exact Int32.not_lt
  rw [e0]
  by_cases h0 : nI 0 ≤ v
  · rw [decide_eq_true h0, Bool.true_and, Bool.true_and, Bool.eq_iff_iff]
    simp only [decide_eq_true_eq]
    obtain ⟨j, hj, rfl⟩ := nI_of (fun q => absurd q (Int32.not_lt.mpr h0))
    rcases Nat.eq_zero_or_pos t with g | g
    · subst g
      constructor
      · intro q
        have h1 := Int32.le_iff_toInt_le.mp q
        rw [nI_toInt hj] at h1
        have h2 : (nI 0 - nI 1).toInt = -1 := by decide
        omega
      · intro q
        exact absurd q (nI_pos hj)
    · rw [pk_sub g, nI_leI hj (by omega), nI_ltI hj (by omega)]
      omega
  · rw [decide_eq_false h0, Bool.false_and, Bool.false_and]
set_option maxRecDepth 100000 in
theorem c_X9_isNight {G : Gm} {S : AS} {b : Nat → Nat} {sz : Nat} {ft v : Int32} {N : List (List Nat)} (hv : MTv S b sz) (hx : TXT b sz ft N) : ∃ SE, Rm G M_X9_isNight [.ref (gB G + 22), .int v] S (some (.int (bI (tolB v N.length)))) SE ∧ MNv SE N ∧ Ag PM S SE := by
  obtain ⟨SE, r1, r2, r3⟩ := c_X9_faultNow (G := G) hv hx
  refine ⟨SE, ?_, r2, r3⟩
  have h8 := (PR_wf hx.2.2).1
  refine Rn_of hp_X9_isNight [some (.ref (gB G + 22)), some (.int v), none] rfl (Nat.le_of_ble_eq_true rfl) (Nat.le_of_ble_eq_true rfl) ?_
  refine V_al0 d_X9_isNight_0 ?_
  refine U_cv0 d_X9_isNight_1 (r1) rfl rfl rfl ?_
  refine V_is2 d_X9_isNight_4 rfl ?_
  refine V_il1 d_X9_isNight_5 ?_
  refine V_ki d_X9_isNight_6 ?_
  refine V_al0 d_X9_isNight_7 ?_
  refine V_getIe d_X9_isNight_8 rfl rfl (by decide) (r2.1) ?_
  refine V_ki d_X9_isNight_11 ?_
  refine V_isub d_X9_isNight_12 ?_
  refine U_cs3 d_X9_isNight_13 (c_X9_in) rfl ?_
  rw [tolB_in h8]
  exact V_zret d_X9_isNight_16 rfl (bI_nar _) (by first | rfl | simp_all) rfl
